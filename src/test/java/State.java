import java.util.IdentityHashMap;
import java.util.Map;

/**
 * All that can be asked of an object, as a text, so that two states can be compared. As some of it changes the object,
 * and as no object takes more than 512 calls, more than one is asked; the same calls have made all of them.
 */
final class State {
    private static final int MOST_CHANGES = 8;
    private static final int MOST_SIGNS = 60;
    private static final Map<Calls, String> KNOWN = new IdentityHashMap<>();

    private static final int MOST_CALLS = 512;

    private final Calls scene;
    private final StringBuilder text = new StringBuilder();
    private Designer asked;

    private State(Calls scene) {
        this.scene = scene;
        asked = scene.made();
    }

    /** An object of which only such things were asked that leave it as it is, with room for some calls more. */
    private Designer asked(int calls) {
        if (asked.calls() + calls > MOST_CALLS) {
            asked = scene.made();
        }
        return asked;
    }

    /** All of it. */
    static String of(Calls scene) {
        return KNOWN.computeIfAbsent(scene, key -> new State(key).addDesign().addProof().addBuffer()
                .addChanges().addSnapshot().addFault().text.toString());
    }

    /** All but the fault position. */
    static String withoutFault(Calls scene) {
        return new State(scene).addDesign().addProof().addBuffer().addChanges().addSnapshot().text.toString();
    }

    /** The design alone: without buffer, proof, fault position, changes that are kept and snapshot. */
    static String ofDesign(Calls scene) {
        return new State(scene).addDesign().text.toString();
    }

    /** The changes that are kept, alone. */
    static String ofChanges(Calls scene) {
        return new State(scene).addChanges().text.toString();
    }

    private State add(String name, Designer x, Calls.Question question) {
        text.append(name).append(' ').append(Calls.outcome(x, question)).append('\n');
        return this;
    }

    private State addDesign() {
        Designer x = asked(11);
        for (int i = 0; i <= 8; i++) {
            int what = i;
            add("account " + i, x, y -> y.account(what));
        }
        add("mean advance", x, y -> Double.doubleToLongBits(y.meanAdvance()));
        int glyphs = x.account(0);
        for (int glyph = 0; glyph < glyphs; glyph++) {
            addGlyph(glyph);
            addKernsOf(glyph, glyphs);
        }
        addClassKerns();
        Designer set = scene.thenTry(Designer::takeProof).made();
        set.append(' ');
        set.append(' ');
        set.takeProof();
        return add("two spaces", set, Designer::proofWidth).add("space", set, y -> y.setProof(0, 250));
    }

    private void addGlyph(int glyph) {
        Designer x = asked(30);
        for (int i = 0; i <= 9; i++) {
            int what = i;
            add("glyph " + glyph + ", " + i, x, y -> y.glyph(glyph, what));
        }
        add("found", x, y -> y.find(y.glyph(glyph, 0)));
        for (int i = 0; i < 8; i++) {
            int what = i;
            add("side " + glyph + ", " + i, x, y -> y.side(glyph, what / 4, what % 4));
        }
        for (int i = 0; i < 8; i++) {
            int what = i;
            add("stem " + glyph + ", " + i, x, y -> y.stem(glyph, what / 2, what % 2 == 1));
        }
        int contours = x.glyph(glyph, 1);
        for (int i = 0; i < contours; i++) {
            addContour(asked(40), glyph, i);
        }
    }

    private void addContour(Designer x, int glyph, int contour) {
        add("points of " + glyph + ", " + contour, x, y -> y.points(glyph, contour));
        int points = x.points(glyph, contour);
        for (int i = 0; i < points; i++) {
            int point = i;
            add("x", x, y -> y.point(glyph, contour, point, false));
            add("y", x, y -> y.point(glyph, contour, point, true));
        }
    }

    private void addKernsOf(int first, int glyphs) {
        Designer x = asked(2 * glyphs);
        for (int i = 0; i < glyphs; i++) {
            int second = i;
            add("kern " + first + ", " + i, x, y -> y.kern(first, second));
            add("why " + first + ", " + i, x, y -> y.why(first, second));
        }
    }

    private void addClassKerns() {
        Designer x = scene.made();
        for (int i = 0; i < 36; i++) {
            int classes = i;
            add("classes " + i, x, y -> y.dropKern(false, classes / 6, classes % 6));
        }
    }

    private State addProof() {
        Designer x = asked(80);
        add("proof width", x, Designer::proofWidth);
        for (int i = 0; i < MOST_SIGNS; i++) {
            int index = i;
            add("position " + i, x, y -> y.position(index));
        }
        for (int i = 0; i < 12; i++) {
            int which = i;
            add("line " + i, x, y -> y.line(1 + which / 3 * 400, which % 2, which % 3));
        }
        return add("least measure", x, y -> y.leastMeasure(1));
    }

    private State addBuffer() {
        Designer x = scene.made();
        add("taken", x, Designer::takeProof).add("its width", x, Designer::proofWidth);
        Designer read = scene.made();
        add("read", read, Designer::readGlyph).add("its fault", read, Designer::faultPosition);
        Designer full = scene.made();
        for (int i = 0; i <= MOST_SIGNS; i++) {
            add("room for sign " + i, full, y -> y.append('A'));
        }
        return this;
    }

    private State addChanges() {
        Calls back = scene;
        for (int i = 0; i <= MOST_CHANGES; i++) {
            add("undo", back.made(), Designer::undo);
            back = back.thenTry(Designer::undo);
            text.append(ofDesign(back));
        }
        return this;
    }

    private State addFault() {
        return add("fault", asked(1), Designer::faultPosition);
    }

    private State addSnapshot() {
        text.append(ofDesign(scene.thenTry(Designer::restore)));
        return add("restore", scene.made(), Designer::restore);
    }
}
