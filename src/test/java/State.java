import java.util.IdentityHashMap;
import java.util.Map;

/**
 * All that can be asked of an object, as a text, so that two states can be compared. What is asked may change the
 * object, and it takes 512 calls at most, so each part is asked of an object of its own that the same calls have made.
 */
final class State {
    private static final int MOST_CHANGES = 8;
    private static final int MOST_SIGNS = 60;
    private static final Map<Calls, String> KNOWN = new IdentityHashMap<>();

    private final Calls scene;
    private final StringBuilder text = new StringBuilder();

    private State(Calls scene) {
        this.scene = scene;
    }

    /** All of it. */
    static String of(Calls scene) {
        return KNOWN.computeIfAbsent(scene, key -> new State(key).addDesign().addProof().addBuffer()
                .addChanges().addSnapshot().add("fault", key.made(), Designer::faultPosition).text.toString());
    }

    /** All but the fault position. */
    static String withoutFault(Calls scene) {
        return new State(scene).addDesign().addProof().addBuffer().addChanges().addSnapshot().text.toString();
    }

    /** The design alone: without the buffer, the proof, the fault position, the changes that are kept and the snapshot. */
    static String ofDesign(Calls scene) {
        return new State(scene).addDesign().text.toString();
    }

    /** The changes that are kept, alone. */
    static String ofChanges(Calls scene) {
        return new State(scene).addChanges().text.toString();
    }

    private State add(String name, Designer x, Calls.Question question) {
        text.append(name).append(' ').append(Calls.outcome(x, question)).append('\n');
        return this;
    }

    private State addDesign() {
        Designer x = scene.made();
        for (int i = 0; i <= 8; i++) {
            int what = i;
            add("account " + i, x, y -> y.account(what));
        }
        add("mean advance", x, y -> Double.doubleToLongBits(y.meanAdvance()));
        int glyphs = x.account(0);
        for (int glyph = 0; glyph < glyphs; glyph++) {
            addGlyph(glyph);
            addKernsOf(glyph, glyphs);
        }
        addClassKerns();
        Designer set = scene.thenTry(Designer::takeProof).made();
        set.append(' ');
        set.append(' ');
        set.takeProof();
        return add("two spaces", set, Designer::proofWidth).add("space", set, y -> y.setProof(0, 250));
    }

    private void addGlyph(int glyph) {
        Designer x = scene.made();
        for (int i = 0; i <= 9; i++) {
            int what = i;
            add("glyph " + glyph + ", " + i, x, y -> y.glyph(glyph, what));
        }
        add("found", x, y -> y.find(y.glyph(glyph, 0)));
        for (int i = 0; i < 8; i++) {
            int what = i;
            add("side " + glyph + ", " + i, x, y -> y.side(glyph, what / 4, what % 4));
        }
        for (int i = 0; i < 8; i++) {
            int what = i;
            add("stem " + glyph + ", " + i, x, y -> y.stem(glyph, what / 2, what % 2 == 1));
        }
        for (int i = 0; i < x.glyph(glyph, 1); i++) {
            addContour(x, glyph, i);
        }
    }

    private void addContour(Designer x, int glyph, int contour) {
        add("points of " + glyph + ", " + contour, x, y -> y.points(glyph, contour));
        for (int i = 0; i < x.points(glyph, contour); i++) {
            int point = i;
            add("x", x, y -> y.point(glyph, contour, point, false));
            add("y", x, y -> y.point(glyph, contour, point, true));
        }
    }

    private void addKernsOf(int first, int glyphs) {
        Designer x = scene.made();
        for (int i = 0; i < glyphs; i++) {
            int second = i;
            add("kern " + first + ", " + i, x, y -> y.kern(first, second));
            add("why " + first + ", " + i, x, y -> y.why(first, second));
        }
    }

    private void addClassKerns() {
        Designer x = scene.made();
        for (int i = 0; i < 36; i++) {
            int classes = i;
            add("classes " + i, x, y -> y.dropKern(false, classes / 6, classes % 6));
        }
    }

    private State addProof() {
        Designer x = scene.made();
        add("proof width", x, Designer::proofWidth);
        for (int i = 0; i < MOST_SIGNS; i++) {
            int index = i;
            add("position " + i, x, y -> y.position(index));
        }
        for (int i = 0; i < 12; i++) {
            int which = i;
            add("line " + i, x, y -> y.line(1 + which / 3 * 400, which % 2, which % 3));
        }
        return add("least measure", x, y -> y.leastMeasure(1));
    }

    private State addBuffer() {
        Designer x = scene.made();
        add("taken", x, Designer::takeProof).add("its width", x, Designer::proofWidth);
        Designer read = scene.made();
        add("read", read, Designer::readGlyph).add("its fault", read, Designer::faultPosition);
        Designer full = scene.made();
        for (int i = 0; i <= MOST_SIGNS; i++) {
            add("room for sign " + i, full, y -> y.append('A'));
        }
        return this;
    }

    private State addChanges() {
        Calls back = scene;
        for (int i = 0; i <= MOST_CHANGES; i++) {
            add("undo", back.made(), Designer::undo);
            back = back.thenTry(Designer::undo);
            text.append(ofDesign(back));
        }
        return this;
    }

    private State addSnapshot() {
        text.append(ofDesign(scene.thenTry(Designer::restore)));
        return add("restore", scene.made(), Designer::restore);
    }
}
