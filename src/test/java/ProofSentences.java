import java.util.Arrays;
import java.util.List;
import java.util.stream.Collectors;

/** The sentences on proofs: promises 27 to 34. */
final class ProofSentences extends Sentences {
    /** Glyphs A and B with advances of 500 and 400 and the kern -40 of A and B. */
    private static final Calls LETTERS = glyphs(2).then(x -> {
        x.addContour(0, 0, 0, 400, 700);
        x.addContour(1, 0, 0, 300, 700);
        x.kernPair(0, 1, -40);
    });
    /** Three words of 860, 500 and 900: 1610 for the first two, 1650 for the last two, 2760 for all. */
    private static final Calls WORDS = LETTERS.then(proof("  AB A  BA "));

    /** Glyphs V, W and X are 17800, 18600 and -400 wide. */
    private static final Calls WIDE = glyphs(24).then(x -> {
        x.setSide(0, 0, 400);
        for (int i = 1; i < 46; i++) {
            x.follow(i / 2, i % 2, (i - 1) / 2, (i - 1) % 2, 200);
        }
        x.setSide(23, 0, -200);
        x.setSide(23, 1, -200);
    });

    ProofSentences(Checks checks, Quotes quotes) {
        super(checks, quotes);
    }

    private static Calls set(int tracking, int space) {
        return x -> x.setProof(tracking, space);
    }

    /** Each row is an argument and the answer that is due. */
    private void eachIs(Calls scene, int[][] rows, Calls.Numbered question) {
        for (int[] row : rows) {
            answers(row[1], scene, x -> question.of(x, row[0]));
        }
    }

    @Override
    void testAll() {
        descriptionOfSetting();
        descriptionOfWidths();
        descriptionOfLines();
        descriptionOfBreaks();
        setProof();
        append();
        takeProof();
        refusedProofs();
        proofWidth();
        position();
        lines();
        line();
        refusedLines();
        leastMeasure();
        leastMeasureOfOddWidths();
        refusedMeasures();
    }

    // ---- the description ----

    private void descriptionOfSetting() {
        description("Proof lines");
        sentence("A proof is a text of glyphs and spaces, set with a tracking from -100 to 200, at first 0, and a "
                + "space width from 50 to 1000, at first 250.");
        test("a tracking of 0 and a space of 250 at first", () -> {
            answers(500, NEW.then(proof("  ")), Designer::proofWidth);
            answers(250, NEW, x -> x.setProof(7, 70));
        });
        test("trackings of -100 and 200, and no int beyond", () ->
                takesOnly(-100, 200, ARGUMENT, FURNISHED, (x, tracking) -> x.setProof(tracking, 250)));
        test("spaces of 50 and 1000, and no int beyond", () ->
                takesOnly(50, 1000, ARGUMENT, FURNISHED, (x, space) -> x.setProof(0, space)));
        test("spaces alone, glyphs alone, and nothing", () -> {
            answers(3, LETTERS, x -> takeAll(x, "   "));
            answers(3, LETTERS, x -> takeAll(x, "ABA"));
            answers(0, LETTERS, x -> takeAll(x, ""));
        });
    }

    private static int takeAll(Designer x, String text) {
        typed(text).on(x);
        return x.takeProof();
    }

    private void descriptionOfWidths() {
        description("Proof lines");
        sentence("In a line, each glyph and space is followed by the next one after its advance, plus the "
                + "tracking, plus the kern if both are glyphs; a space has the space width as its advance.");
        test("two glyphs with a kern, and the other way round", () -> {
            answers(460, LETTERS.then(proof("AB")), x -> x.position(1));
            answers(400, LETTERS.then(proof("BA")), x -> x.position(1));
        });
        test("a glyph and a space, a space and a glyph, two spaces", () ->
                answersEach(numbers(0, 510, 770, 1030, 1500), LETTERS.then(set(10, 250)).then(proof("A  AB")),
                        (x, index) -> x.position(index)));
        test("no kern with a space, though all classes have one", () -> {
            Calls scene = glyphs(1).then(x -> {
                x.setClass(0, true, 0);
                x.setClass(0, false, 0);
                x.kernClasses(0, 0, 99);
                x.kernPair(0, 0, 33);
            });
            answers(100 + 250 + 100, scene.then(proof("A A")), Designer::proofWidth);
            answers(100 + 33 + 100, scene.then(proof("AA")), Designer::proofWidth);
        });
        test("advances below 0", () -> {
            answers(-400, WIDE.then(proof("XX")), x -> x.position(1));
            answers(-800, WIDE.then(proof("XX")), Designer::proofWidth);
        });
        sentence("The width of a line is the sum of all of these, without the tracking behind the last one.");
        test("of one glyph, of one space, of two glyphs", () -> {
            Calls tracked = LETTERS.then(set(200, 250));
            answers(500, tracked.then(proof("A")), Designer::proofWidth);
            answers(250, tracked.then(proof(" ")), Designer::proofWidth);
            answers(500 + 200 + 500, tracked.then(proof("AA")), Designer::proofWidth);
        });
        test("with a tracking below 0", () ->
                answers(500 - 100 + 500, LETTERS.then(set(-100, 250)).then(proof("AA")), Designer::proofWidth));
        test("of a line that is not the last one", () ->
                answers(500 - 100 + 500, LETTERS.then(set(-100, 250)).then(proof("AA A")), x -> x.line(1, 0, 0)));
    }

    private void descriptionOfLines() {
        description("Proof lines");
        sentence("Lines are broken with a measure: the words are the longest rows of glyphs without spaces between "
                + "them.");
        test("one glyph is a word, also at both ends of the proof", () ->
                answers(3, LETTERS.then(proof("A B A")), x -> x.line(100000, 0, 2)));
        test("two spaces end a word like one, spaces at both ends make none", () ->
                answers(3, WORDS, x -> x.line(100000, 0, 2)));
        test("60 glyphs are one word", () -> {
            Calls scene = LETTERS.then(proof("A".repeat(60)));
            answers(1, scene, x -> x.lines(1));
            answers(1, scene, x -> x.line(1, 0, 2));
        });
        sentence("The first word is put into the first line; each next word is put into the same line, with one "
                + "space before it, if the line is then not wider than the measure, and otherwise it is the first "
                + "word of the next line.");
        test("as wide as the measure, and one unit wider", () -> {
            answers(2, WORDS, x -> x.lines(1610));
            answers(3, WORDS, x -> x.lines(1609));
            answers(1, WORDS, x -> x.lines(2760));
            answers(2, WORDS, x -> x.lines(2759));
        });
        test("a first word that is wider than the measure has the first line", () -> {
            answers(860, WORDS, x -> x.line(1, 0, 0));
            answers(2, WORDS, x -> x.line(859, 0, 1));
        });
        test("one space before a word, though the proof has two", () ->
                answers(500 + 250 + 900, LETTERS.then(proof("A  BA")), x -> x.line(100000, 0, 0)));
        test("the tracking on both sides of the space", () -> {
            answers(2, LETTERS.then(set(10, 50)).then(proof("A A")), x -> x.lines(1069));
            answers(1, LETTERS.then(set(10, 50)).then(proof("A A")), x -> x.lines(1070));
        });
        test("a word that finds room no more, and a small one after it in the next line", () -> {
            Calls scene = LETTERS.then(proof("AA AAA B"));
            answersEach(numbers(1, 2), scene, (x, line) -> x.line(2150, line, 2));
            answersEach(numbers(1000, 2150), scene, (x, line) -> x.line(2150, line, 0));
        });
    }

    private void descriptionOfBreaks() {
        description("Proof lines");
        sentence("Without words, or without a proof, there are no lines.");
        test("without a proof: never taken, refused, or forgotten", () -> {
            answers(0, LETTERS, x -> x.lines(1));
            answers(0, LETTERS.then(typed("?")).thenTry(Designer::takeProof), x -> x.lines(1));
            answers(0, WORDS.then(Designer::undo), x -> x.lines(1));
        });
        test("without words: an empty proof, and spaces alone", () -> {
            answers(0, LETTERS.then(proof("")), x -> x.lines(100000));
            answers(0, WORDS.then(proof(" ")), x -> x.lines(1));
            answers(0, LETTERS.then(proof(" ".repeat(60))), x -> x.lines(100000));
            refuses(MISSING, LETTERS.then(proof("  ")), x -> x.line(1, 0, 0));
        });
    }

    // ---- promises 27 to 29 ----

    private void setProof() {
        promise(27);
        sentence("Sets the tracking and the space width.");
        test("both, the least and the greatest", () -> {
            answers(50 - 100 + 50, NEW.then(set(-100, 50)).then(proof("  ")), Designer::proofWidth);
            answers(1000 + 200 + 1000, NEW.then(set(200, 1000)).then(proof("  ")), Designer::proofWidth);
        });
        test("for a proof that was taken before, too", () ->
                answers(50 + 50 - 100, NEW.then(proof("  ")).then(set(-100, 50)), Designer::proofWidth));
        sentence("Returns the previous space width.");
        test("250 at first, and not the tracking", () ->
                answersInTurn(numbers(250, 50), NEW, x -> x.setProof(200, 50)));
        test("50 and 1000, and the same again", () -> {
            answers(50, NEW.then(set(0, 50)), x -> x.setProof(0, 1000));
            answers(1000, NEW.then(set(0, 1000)), x -> x.setProof(0, 1000));
        });
        sentence("Throws `IllegalArgumentException` if an argument is out of range");
        test("trackings of -100 and 200 are taken; -101, 201 and all beyond are not", () ->
                takesOnly(-100, 200, ARGUMENT, FURNISHED, (x, tracking) -> x.setProof(tracking, 50)));
        test("spaces of 50 and 1000 are taken; 49, 1001 and all beyond are not", () ->
                takesOnly(50, 1000, ARGUMENT, FURNISHED, (x, space) -> x.setProof(-100, space)));
        test("if one of them is out of range, the other one is not set", () -> refuses(ARGUMENT, FURNISHED,
                x -> x.setProof(201, 60), x -> x.setProof(-101, 60), x -> x.setProof(20, 1001),
                x -> x.setProof(20, 49)));
    }

    private void append() {
        promise(28);
        sentence("Appends a character to the text buffer.");
        test("behind those that are there", () -> {
            answers(3, FURNISHED.then(typed("C")), Designer::takeProof);
            answers(460, LETTERS.then(typed("A")).then(typed("B")).then(Designer::takeProof), x -> x.position(1));
            answers(400, LETTERS.then(typed("B")).then(typed("A")).then(Designer::takeProof), x -> x.position(1));
        });
        test("to an empty buffer, also after it was emptied", () -> {
            answers(1, LETTERS.then(typed("A")), Designer::takeProof);
            answers(1, WORDS.then(typed("A")), Designer::takeProof);
        });
        sentence("`c`: the character");
        test("0, 127 and 65535 are taken", () -> {
            for (int sign : new int[] {0, 32, 127, 255, 256, 65535}) {
                answers(0, FURNISHED, x -> x.append((char) sign));
            }
        });
        sentence("Throws `IllegalStateException` if the buffer contains 60 characters");
        test("it contains 59", () -> {
            answers(0, LETTERS.then(typed("A".repeat(59))), x -> x.append('A'));
            answers(60, LETTERS.then(typed("A".repeat(60))), Designer::takeProof);
        });
        test("it contains 60", () -> refuses(STATE, LETTERS.then(typed("A".repeat(60))), x -> x.append('A'),
                x -> x.append(' '), x -> x.append((char) 0)));
        test("it contained 60 before it was emptied", () -> {
            Calls scene = LETTERS.then(typed("A".repeat(60)));
            answers(0, scene.then(Designer::takeProof), x -> x.append('A'));
            answers(0, scene.thenTry(Designer::readGlyph), x -> x.append('A'));
            answers(0, LETTERS.then(typed("?".repeat(60))).thenTry(Designer::takeProof), x -> x.append('A'));
        });
        test("it contains 60 over undo and restore", () -> {
            refuses(STATE, LETTERS.then(typed("A".repeat(60))).then(Designer::undo), x -> x.append('A'));
            refuses(STATE, LETTERS.then(Designer::save).then(typed("A".repeat(60))).then(Designer::restore),
                    x -> x.append('A'));
        });
    }

    private void takeProof() {
        promise(29);
        sentence("Takes the text buffer as the proof, in place of the one before.");
        test("a shorter one", () -> {
            answers(500, WORDS.then(proof("A")), Designer::proofWidth);
            refuses(MISSING, WORDS.then(proof("A")), x -> x.position(1));
        });
        test("an empty one", () -> refuses(MISSING, WORDS.then(proof("")), Designer::proofWidth));
        test("one of 60 characters", () -> {
            answers(59 * 500, LETTERS.then(proof("A".repeat(60))), x -> x.position(59));
            answers(60 * 500, LETTERS.then(proof("A".repeat(60))), Designer::proofWidth);
        });
        test("the buffer is a copy: characters that come later are not in it", () ->
                answers(500, LETTERS.then(proof("A")).then(typed("BBB")), Designer::proofWidth));
        sentence("The buffer is emptied, also if an exception is thrown; then the proof stays as it is.");
        test("emptied after a proof was taken", () -> answersInTurn(numbers(2, 0), FURNISHED, Designer::takeProof));
        test("emptied after an exception, and the proof and all else stay", () -> {
            Calls emptied = WORDS.then(typed("A?"));
            throwsThis(ARGUMENT, emptied, Designer::takeProof);
            same(State.of(WORDS), State.of(emptied.thenTry(Designer::takeProof)));
        });
        test("no proof stays none", () -> {
            Calls none = LETTERS.then(typed("?"));
            same(State.of(LETTERS), State.of(none.thenTry(Designer::takeProof)));
        });
        sentence("Returns the number of characters of the proof.");
        test("0, 1 and 60, and spaces count", () -> {
            answers(0, FURNISHED.then(Designer::takeProof), Designer::takeProof);
            answers(1, LETTERS.then(typed(" ")), Designer::takeProof);
            answers(60, LETTERS.then(typed(" A".repeat(30))), Designer::takeProof);
        });
    }

    private void refusedProofs() {
        promise(29);
        sentence("Throws `IllegalArgumentException` if a character is neither a space nor the code of a glyph");
        test("the first, a middle, the last and the 60th one", () -> {
            for (String text : new String[] {"?AB", "A?B", "AB?", "A".repeat(59) + "?", "?" + "A".repeat(59)}) {
                throwsThis(ARGUMENT, LETTERS.then(typed(text)), Designer::takeProof);
            }
        });
        test("a code beside those of the glyphs", () -> {
            throwsThis(ARGUMENT, LETTERS.then(typed("C")), Designer::takeProof);
            throwsThis(ARGUMENT, LETTERS.then(typed("@")), Designer::takeProof);
            answers(1, LETTERS.then(x -> x.addGlyph('C')).then(typed("C")), Designer::takeProof);
        });
        test("a code that undo took away", () ->
                throwsThis(ARGUMENT, glyphs(2).then(typed("B")).then(Designer::undo), Designer::takeProof));
        test("what is nearly a space or a code", () -> {
            for (int sign : new int[] {0, 9, 10, 31, 33, 127, 160, 256 + 'A', 256 + 32, 65535}) {
                throwsThis(ARGUMENT, LETTERS.then(x -> x.append((char) sign)), Designer::takeProof);
            }
        });
        test("the least and the greatest code", () -> answers(3,
                NEW.then(x -> x.addGlyph(33)).then(x -> x.addGlyph(126)).then(typed("! ~")), Designer::takeProof));
        test("without glyphs a space is still one", () -> {
            answers(1, NEW.then(typed(" ")), Designer::takeProof);
            throwsThis(ARGUMENT, NEW.then(typed("A")), Designer::takeProof);
        });
    }

    // ---- promises 30 and 31 ----

    private void proofWidth() {
        promise(30);
        sentence("Returns the width of the whole proof as one line.");
        test("with all of the spaces, also those at both ends", () ->
                answers(860 + 500 + 900 + 6 * 250, WORDS, Designer::proofWidth));
        test("of the design as it is now", () -> {
            answers(3760 + 3 * 2, WORDS.then(x -> x.setSide(0, 0, 52)), Designer::proofWidth);
            answers(3760 + 40, WORDS.then(x -> x.dropKern(true, 0, 1)), Designer::proofWidth);
            answers(3760 + 3 * 7, WORDS.then(x -> x.movePoint(0, 0, 1, 7, 0)), Designer::proofWidth);
        });
        sentence("Returns the width.");
        test("of one space, of one glyph, and below 0", () -> {
            answers(250, LETTERS.then(proof(" ")), Designer::proofWidth);
            answers(500, LETTERS.then(proof("A")), Designer::proofWidth);
            answers(-400, WIDE.then(proof("X")), Designer::proofWidth);
        });
        test("0 is a width, too", () -> answers(0, NEW.then(set(-100, 50)).then(proof("  ")), Designer::proofWidth));
        sentence("Throws `NoSuchElementException` if the proof is empty or was not taken");
        test("it was not taken", () -> {
            refuses(MISSING, NEW, Designer::proofWidth);
            refuses(MISSING, LETTERS.then(typed("AB")), Designer::proofWidth);
        });
        test("it is empty", () -> {
            refuses(MISSING, LETTERS.then(proof("")), Designer::proofWidth);
            refuses(MISSING, WORDS.then(proof("")), Designer::proofWidth);
        });
        test("it was refused, and none was taken before", () ->
                refuses(MISSING, LETTERS.then(typed("A?")).thenTry(Designer::takeProof), Designer::proofWidth));
        test("it was forgotten with undo or restore", () -> {
            refuses(MISSING, WORDS.then(Designer::undo), Designer::proofWidth);
            refuses(MISSING, WORDS.then(Designer::save).then(Designer::restore), Designer::proofWidth);
        });
    }

    private void position() {
        promise(31);
        sentence("Returns where a character of the proof begins, set as one line from 0 on.");
        test("0 for the first one, also if it is a space", () -> {
            answers(0, WORDS, x -> x.position(0));
            answers(0, LETTERS.then(set(200, 250)).then(proof("A")), x -> x.position(0));
        });
        test("all, with the tracking behind each one", () ->
                answersEach(numbers(0, 461, 862, 1113, 1614, 1865, 2116, 2517),
                        LETTERS.then(set(1, 250)).then(proof("AB A  BA")), (x, index) -> x.position(index)));
        sentence("`index`: the index of the character, from 0");
        test("0 and the last one, and no int beyond", () ->
                takesOnly(0, 3, MISSING, FURNISHED, (x, index) -> x.position(index)));
        sentence("Returns the place.");
        test("of the 60th character, and below 0", () -> {
            answers(59 * 250, LETTERS.then(proof(" ".repeat(60))), x -> x.position(59));
            answers(59 * -400, WIDE.then(proof("X".repeat(60))), x -> x.position(59));
        });
        sentence("Throws `NoSuchElementException` if there is no such character");
        test("one behind the last, also of 60, and -1", () -> {
            refuses(MISSING, FURNISHED, x -> x.position(4), x -> x.position(-1));
            refuses(MISSING, LETTERS.then(proof("A".repeat(60))), x -> x.position(60), x -> x.position(61));
        });
        test("one of a longer proof that was there before", () ->
                refuses(MISSING, WORDS.then(proof("AB")), x -> x.position(2)));
        test("0 of an empty proof, of none, and of one that was forgotten", () -> {
            refuses(MISSING, LETTERS.then(proof("")), x -> x.position(0));
            refuses(MISSING, NEW, x -> x.position(0));
            refuses(MISSING, WORDS.then(Designer::undo), x -> x.position(0));
        });
    }

    // ---- promises 32 and 33 ----

    private void lines() {
        promise(32);
        sentence("Returns the number of lines into which the proof is broken.");
        test("where each word finds room just so, or just not", () -> eachIs(WORDS, new int[][] {
            {1, 3}, {1609, 3}, {1610, 2}, {1649, 2}, {2759, 2}, {2760, 1}, {100000, 1}}, Designer::lines));
        test("30 words, which are the most", () -> {
            Calls scene = LETTERS.then(proof(" A".repeat(30)));
            eachIs(scene, new int[][] {{1, 30}, {1249, 30}, {1250, 15}, {30 * 500 + 29 * 250 - 1, 2},
                {30 * 500 + 29 * 250, 1}}, Designer::lines);
        });
        test("one word, however wide", () -> answers(1, LETTERS.then(proof("AAAA")), x -> x.lines(1)));
        sentence("`measure`: the measure, 1 to 100000");
        test("1 and 100000, and no int beyond", () -> takesOnly(1, 100000, ARGUMENT, FURNISHED, Designer::lines));
        test("without a proof, too", () -> takesOnly(1, 100000, ARGUMENT, NEW, Designer::lines));
        sentence("Returns the number.");
        test("0 without a proof and without words", () -> {
            answers(0, NEW, x -> x.lines(1));
            answers(0, NEW.then(proof("   ")), x -> x.lines(100000));
        });
        sentence("Throws `IllegalArgumentException` if the measure is out of range");
        test("0, 100001 and far ones", () -> refuses(ARGUMENT, FURNISHED, x -> x.lines(0), x -> x.lines(100001),
                x -> x.lines(-1), x -> x.lines(MIN), x -> x.lines(MAX)));
    }

    private void line() {
        promise(33);
        sentence("Returns a number of a line into which the proof is broken.");
        test("all of three lines, two lines and one line", () -> {
            answersEach(numbers(860, 2, 1, 500, 5, 1, 900, 8, 1), WORDS, (x, i) -> x.line(1609, i / 3, i % 3));
            answersEach(numbers(1610, 2, 2, 900, 8, 1), WORDS, (x, i) -> x.line(1610, i / 3, i % 3));
            answersEach(numbers(2760, 2, 3), WORDS, (x, i) -> x.line(2760, 0, i));
        });
        sentence("`measure`: the measure, 1 to 100000");
        test("1 and 100000, and no int beyond", () ->
                takesOnly(1, 100000, ARGUMENT, FURNISHED, (x, measure) -> x.line(measure, 0, 0)));
        sentence("`line`: the line, from 0");
        test("0 and the last one, and no int beyond", () -> {
            takesOnly(0, 2, MISSING, WORDS, (x, line) -> x.line(1, line, 0));
            takesOnly(0, 1, MISSING, WORDS, (x, line) -> x.line(1610, line, 2));
            takesOnly(0, 0, MISSING, WORDS, (x, line) -> x.line(100000, line, 1));
        });
        sentence("`what`: 0 for its width, 1 for the index of its first character in the proof, 2 for the number "
                + "of its words");
        test("the width of a line that is wider than the measure", () -> answers(900, WORDS, x -> x.line(1, 2, 0)));
        test("the index of the first glyph and not of a space before it", () -> {
            answers(2, WORDS, x -> x.line(1, 0, 1));
            answers(8, WORDS, x -> x.line(1, 2, 1));
            answers(0, LETTERS.then(proof("A")), x -> x.line(1, 0, 1));
            answers(59, LETTERS.then(proof(" ".repeat(59) + "A")), x -> x.line(1, 0, 1));
        });
        test("30 words in one line, and one word in the thirtieth", () -> {
            Calls scene = LETTERS.then(proof(" A".repeat(30)));
            answersEach(numbers(30 * 500 + 29 * 250, 1, 30), scene, (x, what) -> x.line(100000, 0, what));
            answersEach(numbers(500, 59, 1), scene, (x, what) -> x.line(1, 29, what));
        });
        sentence("Returns the number.");
        test("a width below 0, and one of 0", () -> {
            answers(-400, WIDE.then(proof("X A")), x -> x.line(1, 0, 0));
            answers(0, glyphs(1).then(x -> x.setSide(0, 0, -50)).then(proof("A")), x -> x.line(1, 0, 0));
        });
    }

    private void refusedLines() {
        promise(33);
        sentence("Throws `IllegalArgumentException` if the measure is out of range or what is not from 0 to 2");
        test("measures of 0, 100001 and far ones", () -> refuses(ARGUMENT, FURNISHED, x -> x.line(0, 0, 0),
                x -> x.line(100001, 0, 0), x -> x.line(-1, 0, 0), x -> x.line(MIN, 0, 0), x -> x.line(MAX, 0, 0)));
        test("0 and 2 are taken; -1, 3 and all beyond are not", () ->
                takesOnly(0, 2, ARGUMENT, FURNISHED, (x, what) -> x.line(100000, 0, what)));
        test("without a proof, too", () -> refuses(ARGUMENT, NEW, x -> x.line(0, 0, 0), x -> x.line(1, 0, 3)));
        sentence("Throws `NoSuchElementException` if there is no such line");
        test("one behind the last, and -1", () -> {
            refuses(MISSING, WORDS, x -> x.line(1, 3, 0), x -> x.line(1, -1, 0), x -> x.line(1610, 2, 0));
            refuses(MISSING, LETTERS.then(proof(" A".repeat(30))), x -> x.line(1, 30, 0), x -> x.line(100000, 1, 0));
        });
        test("one that there was with a smaller measure just before", () -> {
            Designer x = WORDS.made();
            same(3, x.lines(1));
            same(MISSING.getName(), Calls.outcome(x, y -> y.line(2760, 1, 0)));
        });
        test("0 without a proof, without words, and of a proof that was forgotten", () -> {
            refuses(MISSING, NEW, x -> x.line(1, 0, 0));
            refuses(MISSING, LETTERS.then(proof("  ")), x -> x.line(1, 0, 1));
            refuses(MISSING, WORDS.then(Designer::undo), x -> x.line(1, 0, 2));
        });
    }

    // ---- promise 34 ----

    private void leastMeasure() {
        promise(34);
        sentence("Returns the least measure with which the proof has at most a number of lines.");
        test("for each number of lines, and it is the least one", () -> {
            eachIs(WORDS, new int[][] {{1, 2760}, {2, 1610}, {3, 1}, {60, 1}}, Designer::leastMeasure);
            answers(2, WORDS, x -> x.lines(1610));
            answers(3, WORDS, x -> x.lines(1609));
        });
        test("at most, and not just so many", () -> {
            // No measure gives three lines: with 1249 there are four, with 1250 two.
            Calls scene = LETTERS.then(proof("A A A A"));
            eachIs(scene, new int[][] {{1, 2750}, {2, 1250}, {3, 1250}, {4, 1}}, Designer::leastMeasure);
        });
        test("of 30 words, for all numbers of lines", () -> {
            Calls scene = glyphs(24).then(x -> {
                for (int i = 0; i < 24; i++) {
                    x.setSide(i, 0, 16 * i - 100);
                    x.setSide(i, 1, 7 * i * i % 400);
                }
            }).then(proof("A B C D E F G H I J K L M N O P Q R S T U V W X A C E G I K"));
            Designer asked = scene.made();
            for (int most = 1; most <= 30; most++) {
                int least = asked.leastMeasure(most);
                int lines = asked.lines(least);
                same(most + " lines: true", most + " lines: " + (lines <= most));
                same(most + " lines: true", most + " lines: " + (least == 1 || allBefore(scene, least, most)));
            }
        });
        sentence("`lines`: the number of lines, 1 to 60");
        test("1 and 60, and no int beyond", () -> takesOnly(1, 60, ARGUMENT, FURNISHED, Designer::leastMeasure));
    }

    /** Whether all measures that are less give more lines; each object is asked some of them. */
    private static boolean allBefore(Calls scene, int least, int most) {
        Designer x = scene.made();
        for (int measure = 1; measure < least; measure++) {
            x = x.calls() < 500 ? x : scene.made();
            if (x.lines(measure) <= most) {
                return false;
            }
        }
        return true;
    }

    /** A proof of words of one glyph each; the widths, from 101 to 1850, are at most 24 different ones. */
    private static Calls ofWidths(int... widths) {
        List<Integer> different = Arrays.stream(widths).distinct().boxed().collect(Collectors.toList());
        String text = Arrays.stream(widths).mapToObj(width -> "" + (char) ('A' + different.indexOf(width)))
                .collect(Collectors.joining(" "));
        return glyphs(different.size()).then(x -> {
            for (int glyph = 0; glyph < different.size(); glyph++) {
                int box = Math.min(different.get(glyph) - 100, 1400);
                x.addContour(glyph, -200, 0, box, 1);
                x.setSide(glyph, 0, different.get(glyph) - box - 50);
            }
        }).then(proof(text));
    }

    private void leastMeasureOfOddWidths() {
        promise(34);
        sentence("Returns the least measure with which the proof has at most a number of lines.");
        test("though with advances below 0 a greater measure gives more lines", () -> {
            // C is 1100, B is -400, A is 200 and D is 600 wide, with a space of 50.
            Calls scene = glyphs(4).then(set(0, 50)).then(x -> {
                x.addContour(0, 0, 0, 100, 100);
                x.setSide(1, 0, -200);
                x.setSide(1, 1, -200);
                x.addContour(2, 0, 0, 1000, 100);
                x.addContour(3, 0, 0, 500, 100);
            }).then(proof("C B A D"));
            eachIs(scene, new int[][] {{499, 3}, {500, 2}, {749, 2}, {750, 3}, {849, 3}, {850, 2}, {1649, 2},
                {1650, 1}}, Designer::lines);
            eachIs(scene, new int[][] {{1, 1650}, {2, 500}, {3, 1}}, Designer::leastMeasure);
        });
        test("of 30 words which measures break into lines in more than 200 ways", () -> {
            // The space of 50 and two trackings of -100 take 150 away between two words.
            int[] widths = {1552, 1571, 598, 1557, 162, 1552, 1269, 272, 162, 1557, 1229, 1552, 357, 898, 659, 1214,
                176, 1188, 449, 659, 256, 256, 176, 162, 162, 153, 153, 151, 151, 151};
            Calls scene = ofWidths(widths).then(set(-100, 50));
            int all = Arrays.stream(widths).sum() - 29 * 150;
            eachIs(scene, new int[][] {{1, 30}, {all - 1, 2}, {all, 1}}, Designer::lines);
            eachIs(scene, new int[][] {{1, all}, {30, 1}}, Designer::leastMeasure);
        });
        sentence("Returns the least measure, at least 1.");
        test("without a proof and without words", () -> {
            answers(1, NEW, x -> x.leastMeasure(1));
            answers(1, NEW.then(proof("  ")), x -> x.leastMeasure(1));
        });
        test("one word, though it is wider", () -> answers(1, LETTERS.then(proof("AB")), x -> x.leastMeasure(1)));
        test("words whose width is below 0, 0 and 1", () -> {
            Calls scene = glyphs(1).then(x -> x.setSide(0, 0, -200)).then(x -> x.setSide(0, 1, -200));
            answers(1, scene.then(proof("A A")), x -> x.leastMeasure(1));
            answers(1, scene.then(set(0, 800)).then(proof("A A")), x -> x.leastMeasure(1));
            answers(1, scene.then(set(0, 801)).then(proof("A A")), x -> x.leastMeasure(1));
            answers(2, scene.then(set(0, 802)).then(proof("A A")), x -> x.leastMeasure(1));
        });
    }

    private void refusedMeasures() {
        promise(34);
        sentence("Throws `IllegalArgumentException` if the number is out of range");
        test("0, 61 and far ones, also without a proof", () -> {
            refuses(ARGUMENT, FURNISHED, x -> x.leastMeasure(0), x -> x.leastMeasure(61), x -> x.leastMeasure(-1),
                    x -> x.leastMeasure(MIN), x -> x.leastMeasure(MAX));
            refuses(ARGUMENT, NEW, x -> x.leastMeasure(0), x -> x.leastMeasure(61));
        });
        sentence("Throws `NoSuchElementException` if no measure up to 100000 is sufficient");
        // VWWW W is 17800 + 4 * 18600 wide, with 1300 + 4 * 1100 + 5 * 200 + 1000 for edges, trackings and the space.
        Calls wide = WIDE.then(set(200, 1000)).then(x -> {
            x.addContour(21, -100, 0, 1300, 1);
            x.addContour(22, 0, 0, 1100, 1);
        }).then(proof("VWWW W"));
        test("99999 and 100000 are sufficient", () -> {
            answers(99999, wide.then(x -> x.kernPair(21, 22, 99)), x -> x.leastMeasure(1));
            answers(100000, wide.then(x -> x.kernPair(21, 22, 100)), x -> x.leastMeasure(1));
        });
        test("100001 would be", () ->
                refuses(MISSING, wide.then(x -> x.kernPair(21, 22, 101)), x -> x.leastMeasure(1)));
        test("100001 would be for one line, and two lines need no more than 1", () ->
                answers(1, wide.then(x -> x.kernPair(21, 22, 101)), x -> x.leastMeasure(2)));
        test("much more would be, for one line and for two", () -> {
            Calls much = WIDE.then(proof("WWWWW WWWWW WWWWW"));
            refuses(MISSING, much, x -> x.leastMeasure(1), x -> x.leastMeasure(2));
            answers(1, much, x -> x.leastMeasure(3));
        });
    }
}
