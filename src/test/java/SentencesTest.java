import java.io.IOException;
import java.util.Set;

/** Each sentence of the document has a test of its own. */
public final class SentencesTest {
    /** Sentences that name no boundary: what can be wrong with these arguments is said where an exception is. */
    private static final Set<String> WITHOUT_BOUNDARY = Set.of(
            "`code`: the code", "`glyph`: the glyph", "`contour`: the contour", "`point`: the point",
            "`side`: the side", "`bearing`: the sidebearing", "`other`: the glyph that it follows",
            "`otherSide`: the side that it follows", "`difference`: the difference", "`kern`: the kern",
            "`first`: the first glyph", "`second`: the second glyph", "`stem`: the stem",
            "`size`: the size of the grid", "`tracking`: the tracking", "`space`: the space width",
            "A type design: glyphs as polygons of whole points, sidebearings that are told or follow rules over other "
            + "glyphs, kerning by classes with exceptions and the reason for each kern, stems that are hinted on small "
            + "grids, pixels, proof lines with breaks, a text format for glyphs, accounts, and undo.",
            "The constructor and the methods follow, a promise each: the signature, then what it does.");

    private SentencesTest() {
    }

    public static void main(String[] args) throws IOException {
        Checks checks = new Checks();
        Quotes quotes = new Quotes();
        Sentences[] parts = {
            new GlyphSentences(checks, quotes),
            new BearingSentences(checks, quotes),
            new KernSentences(checks, quotes),
            new StemSentences(checks, quotes),
            new ProofSentences(checks, quotes),
            new AccountSentences(checks, quotes),
            new ChangeSentences(checks, quotes)};
        for (Sentences part : parts) {
            part.testAll();
        }
        quotes.compareWithDocument(checks, WITHOUT_BOUNDARY);
        checks.end();
    }
}
