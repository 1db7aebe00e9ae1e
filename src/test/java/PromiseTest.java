import java.util.NoSuchElementException;

/** One method for each promise of the document: ordinary inputs, the edges that it names, wrong inputs. */
public final class PromiseTest {
    private static final Class<IndexOutOfBoundsException> INDEX = IndexOutOfBoundsException.class;
    private static final Class<IllegalArgumentException> ARGUMENT = IllegalArgumentException.class;
    private static final Class<IllegalStateException> STATE = IllegalStateException.class;
    private static final Class<NoSuchElementException> MISSING = NoSuchElementException.class;
    private static final Class<UnsupportedOperationException> UNSUPPORTED = UnsupportedOperationException.class;
    private static final Class<ArithmeticException> ARITHMETIC = ArithmeticException.class;
    private static final int MIN = Integer.MIN_VALUE;
    private static final int MAX = Integer.MAX_VALUE;

    private final Checks c = new Checks();

    public static void main(String[] args) {
        new PromiseTest().runAll();
    }

    private void runAll() {
        newObject();
        addGlyph();
        addContour();
        movePoint();
        shift();
        glyph();
        find();
        points();
        point();
        area();
        setSide();
        follow();
        side();
        followers();
        setClass();
        kernClasses();
        kernPair();
        dropKern();
        kern();
        why();
        addStem();
        removeStem();
        stem();
        place();
        isBlack();
        blackPixels();
        setProof();
        append();
        takeProof();
        proofWidth();
        position();
        lines();
        line();
        leastMeasure();
        meanAdvance();
        account();
        readGlyph();
        faultPosition();
        undo();
        save();
        restore();
        fullDesign();
        c.end();
    }

    // ---- what the tests begin with ----

    private static TypeDesigner glyphs(int count) {
        TypeDesigner x = new TypeDesigner();
        for (int i = 0; i < count; i++) {
            x.addGlyph(65 + i);
        }
        return x;
    }

    /** Glyphs A and B with advances of 500 and 400 and the kern -40 of A and B. */
    private static TypeDesigner twoLetters() {
        TypeDesigner x = glyphs(2);
        x.addContour(0, 0, 0, 400, 700);
        x.addContour(1, 0, 0, 300, 700);
        x.kernPair(0, 1, -40);
        return x;
    }

    private static void type(TypeDesigner x, String text) {
        for (int i = 0; i < text.length(); i++) {
            x.append(text.charAt(i));
        }
    }

    private static int take(TypeDesigner x, String text) {
        type(x, text);
        return x.takeProof();
    }

    private static int read(TypeDesigner x, String text) {
        type(x, text);
        return x.readGlyph();
    }

    private static int bool(boolean answer) {
        return answer ? 1 : 0;
    }

    private void accountsAre(String what, TypeDesigner x, int... wants) {
        for (int i = 0; i < wants.length; i++) {
            int number = i;
            c.due(what + ": account(" + i + ")", wants[i], () -> x.account(number));
        }
    }

    // ---- promises 1 to 10 ----

    private void newObject() {
        TypeDesigner x = new TypeDesigner();
        accountsAre("a new object", x, 0, 0, 0, 0, 0, 0, 0, 0, 0);
        c.fails("undo() at first", STATE, () -> x.undo());
        c.fails("restore() at first", STATE, () -> x.restore());
        c.due("faultPosition() at first", -1, () -> x.faultPosition());
        c.due("setProof(200, 50) at first", 250, () -> x.setProof(200, 50));
        TypeDesigner y = glyphs(1);
        c.due("a second object is empty", 0, () -> new TypeDesigner().account(0));
        c.due("a first object stays", 1, () -> y.account(0));
    }

    private void addGlyph() {
        TypeDesigner x = new TypeDesigner();
        for (int code : new int[] {32, 127, -1, 0, MIN, MAX}) {
            c.fails("addGlyph(" + code + ")", ARGUMENT, () -> x.addGlyph(code));
        }
        c.due("addGlyph(33)", 0, () -> x.addGlyph(33));
        c.due("addGlyph(126)", 1, () -> x.addGlyph(126));
        c.fails("addGlyph(33) again", STATE, () -> x.addGlyph(33));
        c.due("glyph(1, 0)", 126, () -> x.glyph(1, 0));
        c.due("glyph(1, 1)", 0, () -> x.glyph(1, 1));
        c.due("glyph(1, 5)", 100, () -> x.glyph(1, 5));
        for (int i = 2; i < 24; i++) {
            int code = 40 + i;
            c.due("addGlyph(" + code + ")", i, () -> x.addGlyph(code));
        }
        c.fails("a 25th glyph", STATE, () -> x.addGlyph(100));
        c.fails("a 25th glyph with a wrong code", ARGUMENT, () -> x.addGlyph(127));
        c.due("account(0)", 24, () -> x.account(0));
    }

    private void addContour() {
        TypeDesigner x = glyphs(1);
        c.fails("addContour of glyph 1", INDEX, () -> x.addContour(1, 0, 0, 0, 0));
        c.fails("addContour of glyph -1", INDEX, () -> x.addContour(-1, 0, 0, 1, 1));
        c.fails("a width of 0", ARGUMENT, () -> x.addContour(0, 0, 0, 0, 1));
        c.fails("a height of 0", ARGUMENT, () -> x.addContour(0, 0, 0, 1, 0));
        c.fails("a negative width", ARGUMENT, () -> x.addContour(0, 0, 0, -1, 1));
        c.fails("a least height", ARGUMENT, () -> x.addContour(0, 0, 0, 1, MIN));
        c.fails("x too small", ARGUMENT, () -> x.addContour(0, -201, 0, 10, 10));
        c.fails("y too small", ARGUMENT, () -> x.addContour(0, 0, -201, 10, 10));
        c.fails("right edge too great", ARGUMENT, () -> x.addContour(0, 1200, 0, 1, 10));
        c.fails("upper edge too great", ARGUMENT, () -> x.addContour(0, 0, 1200, 10, 1));
        c.fails("x + width beyond int", ARGUMENT, () -> x.addContour(0, 1200, 0, MAX, 10));
        c.fails("y + height beyond int", ARGUMENT, () -> x.addContour(0, 0, MAX, 10, MAX));
        c.fails("least x", ARGUMENT, () -> x.addContour(0, MIN, 0, MAX, 10));
        c.fails("x too great", ARGUMENT, () -> x.addContour(0, MAX, 0, 1, 10));
        c.due("the greatest box", 0, () -> x.addContour(0, -200, -200, 1400, 1400));
        c.due("a second box", 1, () -> x.addContour(0, 10, 20, 30, 40));
        int[] xs = {10, 40, 40, 10};
        int[] ys = {20, 20, 60, 60};
        for (int i = 0; i < 4; i++) {
            int at = i;
            c.due("x of point " + i, xs[i], () -> x.point(0, 1, at, false));
            c.due("y of point " + i, ys[i], () -> x.point(0, 1, at, true));
        }
        c.due("a third box", 2, () -> x.addContour(0, 1199, 1199, 1, 1));
        c.fails("a fourth box", STATE, () -> x.addContour(0, 0, 0, 1, 1));
        c.fails("a fourth box out of range", ARGUMENT, () -> x.addContour(0, 0, 0, 0, 1));
        c.due("account(1)", 3, () -> x.account(1));
    }

    private void movePoint() {
        TypeDesigner x = glyphs(2);
        x.addContour(0, 0, 0, 100, 100);
        c.fails("movePoint of glyph 2", INDEX, () -> x.movePoint(2, 0, 0, 0, 0));
        c.fails("movePoint of glyph -1", INDEX, () -> x.movePoint(-1, 0, 0, 0, 0));
        c.fails("movePoint of contour 1", INDEX, () -> x.movePoint(0, 1, 0, 0, 0));
        c.fails("movePoint of contour -1", INDEX, () -> x.movePoint(0, -1, 0, 0, 0));
        c.fails("movePoint of an empty glyph", INDEX, () -> x.movePoint(1, 0, 0, 0, 0));
        c.fails("movePoint of point 4", INDEX, () -> x.movePoint(0, 0, 4, MAX, 0));
        c.fails("movePoint of point -1", INDEX, () -> x.movePoint(0, 0, -1, 0, 0));
        c.due("movePoint to the right", 1200, () -> x.movePoint(0, 0, 1, 1100, 1200));
        c.due("its y", 1200, () -> x.point(0, 0, 1, true));
        c.fails("farther to the right", ARGUMENT, () -> x.movePoint(0, 0, 1, 1, 0));
        c.fails("farther up", ARGUMENT, () -> x.movePoint(0, 0, 1, 0, 1));
        c.fails("beyond int", ARGUMENT, () -> x.movePoint(0, 0, 1, MAX, 0));
        c.fails("beyond int upwards", ARGUMENT, () -> x.movePoint(0, 0, 1, 0, MAX));
        c.due("movePoint to the left", -200, () -> x.movePoint(0, 0, 1, -1400, -1400));
        c.due("its y then", -200, () -> x.point(0, 0, 1, true));
        c.fails("farther to the left", ARGUMENT, () -> x.movePoint(0, 0, 1, -1, 0));
        c.fails("farther down", ARGUMENT, () -> x.movePoint(0, 0, 1, 0, -1));
        c.fails("least dx", ARGUMENT, () -> x.movePoint(0, 0, 1, MIN, 0));
        c.fails("x within, y not", ARGUMENT, () -> x.movePoint(0, 0, 1, 5, MIN));
        c.due("the x stays", -200, () -> x.point(0, 0, 1, false));
        c.due("another point stays", 100, () -> x.point(0, 0, 2, true));
    }

    private void shift() {
        TypeDesigner x = glyphs(2);
        x.addContour(0, 0, 10, 100, 100);
        x.addContour(0, 300, 400, 100, 100);
        x.addStem(0, 20, 30);
        c.fails("shift of glyph 2", INDEX, () -> x.shift(2, 0, 0));
        c.fails("shift of glyph -1", INDEX, () -> x.shift(-1, MAX, 0));
        c.due("shift", 5, () -> x.shift(0, 5, -7));
        c.due("x of contour 1", 305, () -> x.point(0, 1, 0, false));
        c.due("y of contour 1", 393, () -> x.point(0, 1, 0, true));
        c.due("the stem stays", 20, () -> x.stem(0, 0, false));
        c.due("shift to the right", 800, () -> x.shift(0, 795, 0));
        c.fails("farther right", ARGUMENT, () -> x.shift(0, 1, 0));
        c.due("shift to the left", -200, () -> x.shift(0, -1000, 0));
        c.fails("farther left", ARGUMENT, () -> x.shift(0, -1, 0));
        c.due("shift down", -200, () -> x.shift(0, 0, -203));
        c.fails("farther down", ARGUMENT, () -> x.shift(0, 0, -1));
        c.due("shift up", -200, () -> x.shift(0, 0, 910));
        c.due("upper edge", 1200, () -> x.point(0, 1, 2, true));
        c.fails("farther up", ARGUMENT, () -> x.shift(0, 0, 1));
        for (int far : new int[] {MIN, MAX}) {
            c.fails("dx " + far, ARGUMENT, () -> x.shift(0, far, 0));
            c.fails("dy " + far, ARGUMENT, () -> x.shift(0, 0, far));
        }
        c.due("an empty glyph", 0, () -> x.shift(1, MAX, MIN));
        c.due("both points stay after faults", -200, () -> x.point(0, 0, 0, false));
    }

    private void glyph() {
        TypeDesigner x = glyphs(3);
        x.addContour(1, -20, 5, 100, 10);
        x.addContour(1, 40, 50, 100, 200);
        x.movePoint(1, 0, 1, 300, 0);
        x.setSide(1, 0, -200);
        x.setSide(1, 1, 7);
        x.setClass(1, true, 5);
        x.setClass(1, false, 2);
        x.addStem(1, 0, 10);
        x.addStem(1, 20, 30);
        int[] wants = {66, 2, 8, -20, 380, 207, 5, 2, 2, 45000};
        // Moved point 1 of the first box: twice its area grows by 300 * 10.
        for (int i = 0; i < wants.length; i++) {
            int what = i;
            c.due("glyph(1, " + i + ")", wants[i], () -> x.glyph(1, what));
        }
        int[] empty = {67, 0, 0, 0, 0, 100, -1, -1, 0, 0};
        for (int i = 0; i < empty.length; i++) {
            int what = i;
            c.due("glyph(2, " + i + ")", empty[i], () -> x.glyph(2, what));
        }
        c.fails("glyph(3, 10)", INDEX, () -> x.glyph(3, 10));
        c.fails("glyph(-1, 0)", INDEX, () -> x.glyph(-1, 0));
        c.fails("glyph(0, 10)", ARGUMENT, () -> x.glyph(0, 10));
        c.fails("glyph(0, -1)", ARGUMENT, () -> x.glyph(0, -1));
        x.addContour(2, 500, 0, 10, 10);
        c.due("a left edge above 0", 500, () -> x.glyph(2, 3));
        x.addContour(0, -100, 0, 50, 10);
        c.due("a right edge below 0", -50, () -> x.glyph(0, 4));
        read(x, "A(0,0 10,0 5,9)(-7,0 9,0 5,9)(22,0 9,0 5,9)");
        c.due("a left edge at the first point of a later contour", -7, () -> x.glyph(0, 3));
        c.due("a right edge at the first point of a later contour", 22, () -> x.glyph(0, 4));
    }

    private void find() {
        TypeDesigner x = glyphs(2);
        c.due("find(65)", 0, () -> x.find(65));
        c.due("find(66)", 1, () -> x.find(66));
        for (int code : new int[] {0, 32, 64, 67, 127, MIN, MAX}) {
            c.fails("find(" + code + ")", MISSING, () -> x.find(code));
        }
    }

    private void points() {
        TypeDesigner x = glyphs(2);
        x.addContour(0, 0, 0, 10, 10);
        read(x, "B(0,0 1,0 1,1)(0,0 1,0 2,1 3,1 0,9)");
        c.due("points of a box", 4, () -> x.points(0, 0));
        c.due("points of a triangle", 3, () -> x.points(1, 0));
        c.due("points of a pentagon", 5, () -> x.points(1, 1));
        c.fails("points(2, 0)", INDEX, () -> x.points(2, 0));
        c.fails("points(-1, 0)", INDEX, () -> x.points(-1, 0));
        c.fails("points(0, 1)", INDEX, () -> x.points(0, 1));
        c.fails("points(0, -1)", INDEX, () -> x.points(0, -1));
        c.fails("points(0, MAX)", INDEX, () -> x.points(0, MAX));
    }

    private void point() {
        TypeDesigner x = glyphs(2);
        x.addContour(0, 1, 2, 10, 20);
        read(x, "B(3,4 5,6 7,-8)");
        c.due("point(0, 0, 2, false)", 11, () -> x.point(0, 0, 2, false));
        c.due("point(0, 0, 2, true)", 22, () -> x.point(0, 0, 2, true));
        c.due("point(1, 0, 2, true)", -8, () -> x.point(1, 0, 2, true));
        c.fails("point(2, 0, 0, true)", INDEX, () -> x.point(2, 0, 0, true));
        c.fails("point(-1, 0, 0, true)", INDEX, () -> x.point(-1, 0, 0, true));
        c.fails("point(0, 1, 0, true)", INDEX, () -> x.point(0, 1, 0, true));
        c.fails("point(0, -1, 0, true)", INDEX, () -> x.point(0, -1, 0, true));
        c.fails("point(1, 0, 3, true)", INDEX, () -> x.point(1, 0, 3, true));
        c.fails("point(0, 0, -1, false)", INDEX, () -> x.point(0, 0, -1, false));
    }

    private void area() {
        TypeDesigner x = glyphs(1);
        x.addContour(0, -200, -200, 1400, 1400);
        x.addContour(0, 10, 20, 3, 5);
        c.due("the greatest box", 2 * 1400 * 1400, () -> x.area(0, 0));
        c.due("a small box", 30, () -> x.area(0, 1));
        int clockwise = read(x, "b(0,0 0,10 10,0)(5,5 6,6 7,7)(0,0 10,10 10,0 0,10)");
        c.due("a clockwise triangle", -100, () -> x.area(clockwise, 0));
        c.due("points on a line", 0, () -> x.area(clockwise, 1));
        c.due("a crossed box", 0, () -> x.area(clockwise, 2));
        c.fails("area(2, 0)", INDEX, () -> x.area(2, 0));
        c.fails("area(-1, 0)", INDEX, () -> x.area(-1, 0));
        c.fails("area(0, 2)", INDEX, () -> x.area(0, 2));
        c.fails("area(0, -1)", INDEX, () -> x.area(0, -1));
    }

    // ---- promises 11 to 14 ----

    private void setSide() {
        TypeDesigner x = glyphs(2);
        c.due("setSide(0, 0, -200)", 50, () -> x.setSide(0, 0, -200));
        c.due("setSide(0, 1, 400)", 50, () -> x.setSide(0, 1, 400));
        c.due("the left side", -200, () -> x.side(0, 0, 0));
        c.due("the right side", 400, () -> x.side(0, 1, 0));
        c.fails("setSide(0, 0, -201)", ARGUMENT, () -> x.setSide(0, 0, -201));
        c.fails("setSide(0, 0, 401)", ARGUMENT, () -> x.setSide(0, 0, 401));
        c.fails("setSide(2, 0, 0)", INDEX, () -> x.setSide(2, 0, 0));
        c.fails("setSide(-1, 0, 0)", INDEX, () -> x.setSide(-1, 0, 0));
        c.fails("setSide(0, 2, 0)", INDEX, () -> x.setSide(0, 2, 0));
        c.fails("setSide(0, -1, 500)", INDEX, () -> x.setSide(0, -1, 500));
        x.follow(1, 0, 0, 1, 200);
        c.due("setSide in place of a rule", 600, () -> x.setSide(1, 0, 9));
        c.due("the rule is gone", -1, () -> x.side(1, 0, 1));
        c.due("the new sidebearing", 9, () -> x.side(1, 0, 0));
    }

    private void follow() {
        TypeDesigner x = glyphs(3);
        x.setSide(0, 0, 70);
        c.due("follow another glyph", -130, () -> x.follow(1, 1, 0, 0, -200));
        c.due("follow the other side", 250, () -> x.follow(0, 1, 0, 0, 180));
        c.due("follow over two rules", 450, () -> x.follow(2, 0, 0, 1, 200));
        c.fails("follow itself", UNSUPPORTED, () -> x.follow(0, 0, 0, 0, 0));
        c.fails("follow itself over two rules", UNSUPPORTED, () -> x.follow(0, 0, 2, 0, 0));
        c.due("follow in place of a rule", 51, () -> x.follow(2, 0, 2, 1, 1));
        c.due("then the loop is open", 51, () -> x.follow(0, 0, 2, 0, 0));
        c.due("a rule that it had itself is no hindrance", 51, () -> x.follow(0, 0, 2, 0, 0));
        c.due("the followers change", 231, () -> x.side(0, 1, 0));
        c.fails("follow(3, 0, ..)", INDEX, () -> x.follow(3, 0, 0, 0, 0));
        c.fails("follow(-1, 0, ..)", INDEX, () -> x.follow(-1, 0, 0, 0, 0));
        c.fails("follow(0, 2, ..)", INDEX, () -> x.follow(0, 2, 1, 0, 0));
        c.fails("follow(0, -1, ..)", INDEX, () -> x.follow(0, -1, 1, 0, 0));
        c.fails("follow(.., 3, 0)", INDEX, () -> x.follow(0, 0, 3, 0, 201));
        c.fails("follow(.., -1, 0)", INDEX, () -> x.follow(0, 0, -1, 0, 0));
        c.fails("follow(.., 1, 2)", INDEX, () -> x.follow(0, 0, 1, 2, 0));
        c.fails("follow(.., 1, -1)", INDEX, () -> x.follow(0, 0, 1, -1, 0));
        c.fails("a difference of 201", ARGUMENT, () -> x.follow(0, 0, 0, 0, 201));
        c.fails("a difference of -201", ARGUMENT, () -> x.follow(0, 0, 1, 0, -201));
        longestChain();
    }

    private void longestChain() {
        TypeDesigner x = glyphs(24);
        x.setSide(0, 0, 400);
        for (int i = 1; i < 48; i++) {
            x.follow(i / 2, i % 2, (i - 1) / 2, (i - 1) % 2, 200);
        }
        c.due("the end of the longest chain", 400 + 47 * 200, () -> x.side(23, 1, 0));
        c.due("its rules", 47, () -> x.side(23, 1, 3));
        c.due("all others follow the first", 47, () -> x.followers(0, 0));
        c.fails("the chain can't be closed", UNSUPPORTED, () -> x.follow(0, 0, 23, 1, 0));
        c.due("account(3)", 47, () -> x.account(3));
        c.due("account(8)", 48 * 400 + 200 * (47 * 48 / 2), () -> x.account(8));
    }

    private void side() {
        TypeDesigner x = glyphs(3);
        x.follow(1, 0, 2, 1, 10);
        x.follow(0, 1, 1, 0, -200);
        int[][] wants = {{-140, 1, 0, 2}, {60, 2, 1, 1}, {50, -1, -1, 0}};
        int[][] sides = {{0, 1}, {1, 0}, {2, 1}};
        for (int i = 0; i < 3; i++) {
            for (int k = 0; k < 4; k++) {
                int glyph = sides[i][0];
                int side = sides[i][1];
                int what = k;
                c.due("side(" + glyph + ", " + side + ", " + k + ")", wants[i][k], () -> x.side(glyph, side, what));
            }
        }
        c.fails("side(3, 0, 4)", INDEX, () -> x.side(3, 0, 4));
        c.fails("side(-1, 0, 0)", INDEX, () -> x.side(-1, 0, 0));
        c.fails("side(0, 2, 0)", INDEX, () -> x.side(0, 2, 0));
        c.fails("side(0, -1, 0)", INDEX, () -> x.side(0, -1, 0));
        c.fails("side(0, 0, 4)", ARGUMENT, () -> x.side(0, 0, 4));
        c.fails("side(0, 0, -1)", ARGUMENT, () -> x.side(0, 0, -1));
    }

    private void followers() {
        TypeDesigner x = glyphs(3);
        c.due("none", 0, () -> x.followers(0, 0));
        x.follow(0, 1, 0, 0, 0);
        x.follow(1, 0, 0, 1, 0);
        x.follow(2, 0, 0, 0, 0);
        c.due("over one and two rules", 3, () -> x.followers(0, 0));
        c.due("in the middle", 1, () -> x.followers(0, 1));
        c.due("at the end", 0, () -> x.followers(1, 0));
        x.setSide(0, 1, 0);
        c.due("after a rule is gone", 1, () -> x.followers(0, 0));
        x.follow(0, 0, 2, 1, 0);
        c.due("the first sidebearing and its follower", 2, () -> x.followers(2, 1));
        c.fails("followers(3, 0)", INDEX, () -> x.followers(3, 0));
        c.fails("followers(-1, 0)", INDEX, () -> x.followers(-1, 0));
        c.fails("followers(0, 2)", INDEX, () -> x.followers(0, 2));
        c.fails("followers(0, -1)", INDEX, () -> x.followers(0, -1));
    }

    // ---- promises 15 to 20 ----

    private void setClass() {
        TypeDesigner x = glyphs(2);
        c.due("setClass(0, true, 5)", -1, () -> x.setClass(0, true, 5));
        c.due("setClass(0, false, 0)", -1, () -> x.setClass(0, false, 0));
        c.due("setClass(0, true, 0)", 5, () -> x.setClass(0, true, 0));
        c.due("the second class stays", 0, () -> x.glyph(0, 7));
        c.due("setClass(0, true, -1)", 0, () -> x.setClass(0, true, -1));
        c.due("no first class", -1, () -> x.glyph(0, 6));
        c.due("another glyph stays", -1, () -> x.glyph(1, 7));
        c.fails("setClass(2, true, 0)", INDEX, () -> x.setClass(2, true, 6));
        c.fails("setClass(-1, true, 0)", INDEX, () -> x.setClass(-1, true, 0));
        c.fails("setClass(0, true, 6)", ARGUMENT, () -> x.setClass(0, true, 6));
        c.fails("setClass(0, false, -2)", ARGUMENT, () -> x.setClass(0, false, -2));
    }

    private void kernClasses() {
        TypeDesigner x = new TypeDesigner();
        c.due("kernClasses(0, 0, -300)", 1, () -> x.kernClasses(0, 0, -300));
        c.due("kernClasses(5, 5, 300)", 2, () -> x.kernClasses(5, 5, 300));
        c.due("in place of one", 2, () -> x.kernClasses(5, 5, 0));
        c.due("the other order", 3, () -> x.kernClasses(0, 5, 1));
        c.due("account(4)", 3, () -> x.account(4));
        c.due("the new one is told", 0, () -> x.dropKern(false, 5, 5));
        for (int wrong : new int[] {-1, 6, MIN, MAX}) {
            c.fails("kernClasses(" + wrong + ", 0, 301)", INDEX, () -> x.kernClasses(wrong, 0, 301));
            c.fails("kernClasses(0, " + wrong + ", 0)", INDEX, () -> x.kernClasses(0, wrong, 0));
        }
        c.fails("a kern of 301", ARGUMENT, () -> x.kernClasses(0, 0, 301));
        c.fails("a kern of -301", ARGUMENT, () -> x.kernClasses(0, 0, -301));
        TypeDesigner y = new TypeDesigner();
        for (int i = 0; i < 36; i++) {
            int at = i;
            c.due("all classes, " + i, i + 1, () -> y.kernClasses(at / 6, at % 6, at));
        }
        c.due("a class of the middle", 17, () -> y.dropKern(false, 2, 5));
    }

    private void kernPair() {
        TypeDesigner x = glyphs(7);
        c.due("kernPair(0, 0, 300)", 1, () -> x.kernPair(0, 0, 300));
        c.due("kernPair(0, 1, -300)", 2, () -> x.kernPair(0, 1, -300));
        c.due("in place of one", 2, () -> x.kernPair(0, 1, 5));
        c.due("the other order has none", 0, () -> x.kern(1, 0));
        c.due("the new one", 5, () -> x.kern(0, 1));
        for (int i = 2; i < 40; i++) {
            int at = i;
            c.due("a kern more, " + i, i + 1, () -> x.kernPair(at / 7, at % 7, 1));
        }
        c.fails("a 41st kern", STATE, () -> x.kernPair(6, 6, 1));
        c.due("in place of one of 40", 40, () -> x.kernPair(0, 1, 6));
        c.due("account(5)", 40, () -> x.account(5));
        c.fails("kernPair(7, 0, 301)", INDEX, () -> x.kernPair(7, 0, 301));
        c.fails("kernPair(0, 7, 0)", INDEX, () -> x.kernPair(0, 7, 0));
        c.fails("kernPair(-1, 0, 0)", INDEX, () -> x.kernPair(-1, 0, 0));
        c.fails("kernPair(0, -1, 0)", INDEX, () -> x.kernPair(0, -1, 0));
        c.fails("a kern of 301", ARGUMENT, () -> x.kernPair(6, 6, 301));
        c.fails("a kern of -301", ARGUMENT, () -> x.kernPair(6, 6, -301));
        c.due("one is dropped", 1, () -> x.dropKern(true, 1, 1));
        c.due("then there is room", 40, () -> x.kernPair(6, 6, 1));
    }

    private void dropKern() {
        TypeDesigner x = glyphs(2);
        x.kernPair(0, 1, 0);
        x.kernClasses(0, 1, 7);
        c.fails("the other order", MISSING, () -> x.dropKern(true, 1, 0));
        c.fails("the other order of classes", MISSING, () -> x.dropKern(false, 1, 0));
        c.due("a kern of 0", 0, () -> x.dropKern(true, 0, 1));
        c.fails("again", MISSING, () -> x.dropKern(true, 0, 1));
        c.due("the kern for classes stays", 7, () -> x.dropKern(false, 0, 1));
        c.due("account(4)", 0, () -> x.account(4));
        c.due("account(5)", 0, () -> x.account(5));
        c.fails("classes again", MISSING, () -> x.dropKern(false, 0, 1));
        x.setClass(0, true, 0);
        x.setClass(0, false, 1);
        c.due("no kern is left for the classes", 0, () -> x.kern(0, 0));
        c.due("no reason is left", 0, () -> x.why(0, 0));
        x.kernPair(1, 0, 3);
        x.kernClasses(1, 0, 3);
        for (int far : new int[] {-1, 24, 6, MIN, MAX, -24}) {
            c.fails("a pair of 0 and " + far, MISSING, () -> x.dropKern(true, 0, far));
            c.fails("a pair of " + far + " and 0", MISSING, () -> x.dropKern(true, far, 0));
            c.fails("classes 0 and " + far, MISSING, () -> x.dropKern(false, 0, far));
            c.fails("classes " + far + " and 0", MISSING, () -> x.dropKern(false, far, 0));
        }
        c.due("both stay", 1, () -> x.account(5));
    }

    private void kern() {
        TypeDesigner x = glyphs(3);
        c.due("none is told", 0, () -> x.kern(0, 1));
        x.kernClasses(2, 3, -60);
        c.due("without classes", 0, () -> x.kern(0, 1));
        x.setClass(0, true, 2);
        c.due("with a first class alone", 0, () -> x.kern(0, 1));
        x.setClass(1, false, 3);
        c.due("with both classes", -60, () -> x.kern(0, 1));
        c.due("in the other order", 0, () -> x.kern(1, 0));
        x.kernPair(0, 1, 0);
        c.due("an exception of 0", 0, () -> x.kern(0, 1));
        x.dropKern(true, 0, 1);
        c.due("without the exception", -60, () -> x.kern(0, 1));
        x.kernPair(2, 2, 8);
        c.due("a glyph with itself", 8, () -> x.kern(2, 2));
        x.setClass(1, false, 4);
        c.due("another class", 0, () -> x.kern(0, 1));
        for (int kern = -300; kern <= 300; kern++) {
            int told = kern;
            x.kernPair(2, 1, kern);
            c.due("a kern of " + kern, kern, () -> x.kern(2, 1));
            c.due("why it is " + kern, 2, () -> x.why(2, 1));
            x.kernClasses(2, 3, kern);
            x.setClass(1, false, 3);
            c.due("a kern of classes of " + kern, told, () -> x.kern(0, 1));
            c.due("why it is that", 1, () -> x.why(0, 1));
        }
        c.fails("kern(3, 0)", INDEX, () -> x.kern(3, 0));
        c.fails("kern(0, 3)", INDEX, () -> x.kern(0, 3));
        c.fails("kern(-1, 0)", INDEX, () -> x.kern(-1, 0));
        c.fails("kern(0, -1)", INDEX, () -> x.kern(0, -1));
    }

    private void why() {
        TypeDesigner x = glyphs(2);
        x.setClass(0, true, 0);
        x.setClass(1, false, 5);
        c.due("none is told", 0, () -> x.why(0, 1));
        x.kernPair(0, 1, 0);
        c.due("one for the glyphs, though 0", 2, () -> x.why(0, 1));
        x.kernClasses(0, 5, 0);
        c.due("both", 3, () -> x.why(0, 1));
        x.dropKern(true, 0, 1);
        c.due("one for the classes, though 0", 1, () -> x.why(0, 1));
        c.due("in the other order", 0, () -> x.why(1, 0));
        c.fails("why(2, 0)", INDEX, () -> x.why(2, 0));
        c.fails("why(0, 2)", INDEX, () -> x.why(0, 2));
        c.fails("why(-1, 0)", INDEX, () -> x.why(-1, 0));
        c.fails("why(0, -1)", INDEX, () -> x.why(0, -1));
    }

    // ---- promises 21 to 26 ----

    private void addStem() {
        TypeDesigner x = glyphs(2);
        c.due("the last possible stem", 0, () -> x.addStem(0, 1100, 1200));
        c.due("the first possible stem", 0, () -> x.addStem(0, -200, -199));
        c.due("between them", 1, () -> x.addStem(0, 100, 200));
        c.fails("touching from the left", STATE, () -> x.addStem(0, 50, 100));
        c.fails("touching from the right", STATE, () -> x.addStem(0, 200, 201));
        c.fails("inside", STATE, () -> x.addStem(0, 120, 130));
        c.fails("around", STATE, () -> x.addStem(0, 90, 210));
        c.fails("overlapping the first one", STATE, () -> x.addStem(0, -199, 0));
        c.fails("equal ends", ARGUMENT, () -> x.addStem(0, 120, 120));
        c.fails("ends in the wrong order", ARGUMENT, () -> x.addStem(0, 301, 300));
        c.fails("the left end out of range", ARGUMENT, () -> x.addStem(0, -201, -150));
        c.fails("the right end out of range", ARGUMENT, () -> x.addStem(0, 1150, 1201));
        c.fails("addStem(2, ..)", INDEX, () -> x.addStem(2, 5, 5));
        c.fails("addStem(-1, ..)", INDEX, () -> x.addStem(-1, 0, 5));
        c.due("one unit apart", 2, () -> x.addStem(0, 201, 202));
        c.fails("a fifth stem", STATE, () -> x.addStem(0, 500, 600));
        c.fails("a fifth stem out of range", ARGUMENT, () -> x.addStem(0, 600, 500));
        int[] lefts = {-200, 100, 201, 1100};
        for (int i = 0; i < 4; i++) {
            int stem = i;
            c.due("left end " + i, lefts[i], () -> x.stem(0, stem, false));
        }
        c.due("another glyph has none", 0, () -> x.glyph(1, 8));
    }

    private void removeStem() {
        TypeDesigner x = glyphs(2);
        x.addStem(0, 0, 10);
        x.addStem(0, 20, 50);
        x.addStem(0, 60, 200);
        c.due("the middle one", 30, () -> x.removeStem(0, 1));
        c.due("the last one is the second then", 60, () -> x.stem(0, 1, false));
        c.due("with its right end", 200, () -> x.stem(0, 1, true));
        c.due("the first one stays", 10, () -> x.stem(0, 0, true));
        c.fails("removeStem(0, 2)", INDEX, () -> x.removeStem(0, 2));
        c.fails("removeStem(0, -1)", INDEX, () -> x.removeStem(0, -1));
        c.fails("removeStem(1, 0)", INDEX, () -> x.removeStem(1, 0));
        c.fails("removeStem(2, 0)", INDEX, () -> x.removeStem(2, 0));
        c.fails("removeStem(-1, 0)", INDEX, () -> x.removeStem(-1, 0));
        c.due("the last one", 140, () -> x.removeStem(0, 1));
        c.due("the only one", 10, () -> x.removeStem(0, 0));
        c.due("none is left", 0, () -> x.glyph(0, 8));
        c.due("its room is free", 0, () -> x.addStem(0, 5, 15));
    }

    private void stem() {
        TypeDesigner x = glyphs(2);
        x.addStem(1, 30, 40);
        x.addStem(1, -10, 20);
        c.due("stem(1, 0, false)", -10, () -> x.stem(1, 0, false));
        c.due("stem(1, 0, true)", 20, () -> x.stem(1, 0, true));
        c.due("stem(1, 1, false)", 30, () -> x.stem(1, 1, false));
        c.due("stem(1, 1, true)", 40, () -> x.stem(1, 1, true));
        c.fails("stem(1, 2, true)", INDEX, () -> x.stem(1, 2, true));
        c.fails("stem(1, -1, true)", INDEX, () -> x.stem(1, -1, true));
        c.fails("stem(0, 0, true)", INDEX, () -> x.stem(0, 0, true));
        c.fails("stem(2, 0, true)", INDEX, () -> x.stem(2, 0, true));
        c.fails("stem(-1, 0, true)", INDEX, () -> x.stem(-1, 0, true));
    }

    private void place() {
        TypeDesigner x = glyphs(2);
        int[][] without = {{10, 49, 0}, {10, 50, 1}, {10, -50, 0}, {10, -51, -1}, {10, -150, -1}, {10, -151, -2},
            {60, 2000, 120}, {60, -1000, -60}, {6, 2000, 12}, {6, 83, 0}, {6, 84, 1}, {6, -1000, -6}};
        for (int[] row : without) {
            c.due("place(1, " + row[0] + ", " + row[1] + ")", row[2], () -> x.place(1, row[0], row[1]));
        }
        x.addStem(0, 20, 30);
        x.addStem(0, 31, 32);
        x.addStem(0, 33, 160);
        x.addStem(0, 700, 790);
        // On a grid of 10: 0 to 1, 2 to 3, 4 to 5, 7 to 8.
        int[][] on10 = {{20, 0}, {30, 1}, {31, 2}, {32, 3}, {33, 4}, {160, 5}, {700, 7}, {790, 8}, {19, 0}, {-60, -1},
            {25, 0}, {40, 4}, {50, 5}, {150, 6}, {161, 5}, {170, 5}, {250, 6}, {699, 10}, {701, 7}, {750, 8}, {791, 8},
            {850, 9}, {1000, 10}};
        for (int[] row : on10) {
            c.due("place(0, 10, " + row[0] + ")", row[1], () -> x.place(0, 10, row[0]));
        }
        c.fails("place(2, 5, 0)", INDEX, () -> x.place(2, 5, 0));
        c.fails("place(-1, 6, 0)", INDEX, () -> x.place(-1, 6, 0));
        c.fails("place(0, 5, 0)", ARGUMENT, () -> x.place(0, 5, 0));
        c.fails("place(0, 61, 0)", ARGUMENT, () -> x.place(0, 61, 0));
        c.fails("place(0, 6, 2001)", ARGUMENT, () -> x.place(0, 6, 2001));
        c.fails("place(0, 6, -1001)", ARGUMENT, () -> x.place(0, 6, -1001));
        TypeDesigner y = glyphs(1);
        y.addStem(0, -200, -100);
        c.due("a negative left end", -2, () -> y.place(0, 10, -200));
        c.due("a negative right end", -1, () -> y.place(0, 10, -100));
        y.addStem(0, 400, 660);
        c.due("a stem of 2.6 pixels", 7, () -> y.place(0, 10, 660));
    }

    private void isBlack() {
        TypeDesigner x = glyphs(3);
        // On a grid of 10 the middles lie at 50, 150, 250, ..
        x.addContour(0, 50, 50, 100, 100);
        int[][] box = {{-1, 0, 0}, {0, 0, 1}, {1, 0, 0}, {0, 1, 0}, {0, -1, 0}, {1, 1, 0}};
        for (int[] row : box) {
            c.due("a box, " + row[0] + "," + row[1], row[2], () -> bool(x.isBlack(0, 10, row[0], row[1])));
        }
        x.addContour(0, 60, 0, 200, 300);
        c.due("before the second contour", 1, () -> bool(x.isBlack(0, 10, 0, 0)));
        c.due("in the second contour", 1, () -> bool(x.isBlack(0, 10, 1, 0)));
        x.addContour(0, 70, 10, 150, 200);
        c.due("in two contours", 0, () -> bool(x.isBlack(0, 10, 1, 1)));
        // 643 * 7 is 4501, and the middle of row 4 on a grid of 7 lies at 4500 / 7.
        int[][] heights = {{643, 1000, 0}, {642, 1000, 1}, {0, 643, 1}, {0, 642, 0}};
        for (int[] row : heights) {
            TypeDesigner y = glyphs(1);
            y.addContour(0, 0, row[0], 1000, row[1] - row[0]);
            c.due("from " + row[0] + " to " + row[1], row[2], () -> bool(y.isBlack(0, 7, 3, 4)));
            TypeDesigner z = glyphs(1);
            z.addContour(0, row[0], 0, row[1] - row[0], 1000);
            c.due("columns from " + row[0] + " to " + row[1], row[2], () -> bool(z.isBlack(0, 7, 4, 3)));
        }
        read(x, "B(500,643 1000,1000 0,1000)");
        c.due("a point at 643 alone", 0, () -> bool(x.isBlack(1, 7, 1, 4)));
        read(x, "B(500,643 0,0 1000,0)");
        c.due("a point above the middle", 1, () -> bool(x.isBlack(1, 7, 3, 4)));
        read(x, "B(300,0 0,300 0,0)");
        c.due("left of a first side that falls to the right", 1, () -> bool(x.isBlack(1, 10, 0, 0)));
        c.due("right of it", 0, () -> bool(x.isBlack(1, 10, 2, 1)));
        read(x, "B(0,0 300,0 0,300)");
        int[][] triangle = {{0, 0, 1}, {1, 0, 1}, {2, 0, 0}, {1, 1, 0}, {0, 1, 1}, {0, 2, 0}};
        for (int[] row : triangle) {
            c.due("a triangle, " + row[0] + "," + row[1], row[2], () -> bool(x.isBlack(1, 10, row[0], row[1])));
        }
        c.due("an empty glyph", 0, () -> bool(x.isBlack(2, 10, 0, 0)));
        // 1500 / 7 is 214.2.., so two of them are more than 400 and less than 429.
        read(x, "B(0,0 429,0 0,429)");
        c.due("just inside", 1, () -> bool(x.isBlack(1, 7, 1, 1)));
        read(x, "B(0,0 428,0 0,428)");
        c.due("just outside", 0, () -> bool(x.isBlack(1, 7, 1, 1)));
        x.addStem(1, 0, 10);
        c.due("stems do not matter", 1, () -> bool(x.isBlack(1, 10, 0, 0)));
        c.due("the farthest pixel", 0, () -> bool(x.isBlack(0, 60, 100, -100)));
        c.due("the other one", 0, () -> bool(x.isBlack(0, 6, -100, 100)));
        c.fails("isBlack(3, ..)", INDEX, () -> x.isBlack(3, 5, 0, 0));
        c.fails("isBlack(-1, ..)", INDEX, () -> x.isBlack(-1, 6, 0, 0));
        int[][] wrong = {{5, 0, 0}, {61, 0, 0}, {6, 101, 0}, {6, -101, 0}, {6, 0, 101}, {6, 0, -101}};
        for (int[] row : wrong) {
            c.fails("isBlack(0, " + row[0] + ", " + row[1] + ", " + row[2] + ")", ARGUMENT,
                    () -> x.isBlack(0, row[0], row[1], row[2]));
        }
    }

    private void blackPixels() {
        TypeDesigner x = glyphs(3);
        x.addContour(0, -200, -200, 1400, 1400);
        c.due("all pixels of a grid of 6", 64, () -> x.blackPixels(0, 6));
        c.due("a grid of 24", 34 * 34, () -> x.blackPixels(0, 24));
        x.addContour(0, 0, 0, 1000, 1000);
        c.due("with a hole", 34 * 34 - 24 * 24, () -> x.blackPixels(0, 24));
        c.due("an empty glyph", 0, () -> x.blackPixels(1, 6));
        x.addContour(2, -200, 0, 100, 1000);
        c.due("the left columns", 24 * 3, () -> x.blackPixels(2, 24));
        c.fails("blackPixels(3, 5)", INDEX, () -> x.blackPixels(3, 5));
        c.fails("blackPixels(-1, 6)", INDEX, () -> x.blackPixels(-1, 6));
        c.fails("blackPixels(0, 5)", ARGUMENT, () -> x.blackPixels(0, 5));
        c.fails("blackPixels(0, 25)", ARGUMENT, () -> x.blackPixels(0, 25));
        countsWhatIsBlack();
    }

    private void countsWhatIsBlack() {
        TypeDesigner x = new TypeDesigner();
        read(x, "A(-150,-99 900,37 411,1190 -20,600)(100,0 7,500 600,513)");
        for (int size = 6; size <= 24; size++) {
            int grid = size;
            int count = 0;
            for (int column = -5; column <= 29; column++) {
                for (int row = -5; row <= 29; row++) {
                    count += bool(x.isBlack(0, size, column, row));
                }
            }
            c.due("blackPixels(0, " + size + ")", count, () -> x.blackPixels(0, grid));
        }
    }

    // ---- promises 27 to 34 ----

    private void setProof() {
        TypeDesigner x = new TypeDesigner();
        c.due("setProof(-100, 50)", 250, () -> x.setProof(-100, 50));
        c.due("setProof(200, 1000)", 50, () -> x.setProof(200, 1000));
        c.due("setProof(0, 250)", 1000, () -> x.setProof(0, 250));
        c.fails("setProof(-101, 250)", ARGUMENT, () -> x.setProof(-101, 250));
        c.fails("setProof(201, 250)", ARGUMENT, () -> x.setProof(201, 250));
        c.fails("setProof(0, 49)", ARGUMENT, () -> x.setProof(0, 49));
        c.fails("setProof(0, 1001)", ARGUMENT, () -> x.setProof(0, 1001));
        c.due("the space width stays", 250, () -> x.setProof(5, 300));
        take(x, "  ");
        c.due("both count", 605, () -> x.proofWidth());
    }

    private void append() {
        TypeDesigner x = glyphs(1);
        for (int i = 0; i < 60; i++) {
            x.append('A');
        }
        c.fails("a 61st character", STATE, () -> x.append('A'));
        c.due("takeProof() of 60", 60, () -> x.takeProof());
        x.append('A');
        c.due("the buffer was emptied", 1, () -> x.takeProof());
        x.append((char) 0);
        x.append((char) 65535);
        c.fails("other characters are taken, but no proof", ARGUMENT, () -> x.takeProof());
    }

    private void takeProof() {
        TypeDesigner x = glyphs(2);
        c.due("a text", 4, () -> take(x, "AB A"));
        c.due("spaces alone", 2, () -> take(x, "  "));
        c.due("in place of the one before", 500, () -> x.proofWidth());
        c.fails("an unknown glyph", ARGUMENT, () -> take(x, "ABC"));
        c.due("then the proof stays", 500, () -> x.proofWidth());
        c.due("and the buffer is empty", 0, () -> x.takeProof());
        c.fails("the empty proof is taken", MISSING, () -> x.proofWidth());
        c.fails("a tab", ARGUMENT, () -> take(x, "\t"));
        c.fails("a letter beyond 255", ARGUMENT, () -> take(x, "A" + (char) (256 + 65)));
        x.addGlyph(67);
        c.due("a glyph that is new", 3, () -> take(x, "ABC"));
    }

    private void proofWidth() {
        TypeDesigner x = twoLetters();
        c.fails("none was taken", MISSING, () -> x.proofWidth());
        take(x, "AB A  BA");
        c.due("proofWidth()", 3010, () -> x.proofWidth());
        x.setProof(10, 200);
        c.due("with tracking", 2930, () -> x.proofWidth());
        x.setProof(-100, 50);
        c.due("with less tracking", 5 * 450 - 40 + 50 + 3 * 50 - 700, () -> x.proofWidth());
        x.setProof(0, 250);
        x.kernPair(1, 0, 7);
        x.setSide(0, 0, 60);
        c.due("the design of now counts", 3010 + 7 + 30, () -> x.proofWidth());
        take(x, "A");
        c.due("one glyph without tracking", 510, () -> x.proofWidth());
        take(x, "A A");
        c.due("no kern over a space", 510 + 250 + 510, () -> x.proofWidth());
        // A space is in no class, not in class 0 either.
        x.setClass(0, true, 0);
        x.setClass(0, false, 0);
        x.kernClasses(0, 0, 99);
        c.due("no kern of classes with a space", 510 + 250 + 510, () -> x.proofWidth());
    }

    private void position() {
        TypeDesigner x = twoLetters();
        c.fails("none was taken", MISSING, () -> x.position(0));
        take(x, "AB A  BA");
        x.setProof(1, 250);
        int[] wants = {0, 461, 862, 1113, 1614, 1865, 2116, 2517};
        for (int i = 0; i < 8; i++) {
            int at = i;
            c.due("position(" + i + ")", wants[i], () -> x.position(at));
        }
        for (int wrong : new int[] {-1, 8, MIN, MAX}) {
            c.fails("position(" + wrong + ")", MISSING, () -> x.position(wrong));
        }
    }

    private void lines() {
        TypeDesigner x = twoLetters();
        c.due("without a proof", 0, () -> x.lines(1));
        take(x, "   ");
        c.due("without words", 0, () -> x.lines(100000));
        take(x, "  AB A  BA ");
        // AB 860, A 500, BA 900: 1610 for two words, 2760 for three.
        int[][] wants = {{1, 3}, {1609, 3}, {1610, 2}, {2759, 2}, {2760, 1}, {100000, 1}};
        for (int[] row : wants) {
            c.due("lines(" + row[0] + ")", row[1], () -> x.lines(row[0]));
        }
        x.setProof(10, 200);
        c.due("with tracking, too narrow", 2, () -> x.lines(2719));
        c.due("with tracking", 1, () -> x.lines(2720));
        for (int wrong : new int[] {0, -1, 100001, MIN, MAX}) {
            c.fails("lines(" + wrong + ")", ARGUMENT, () -> x.lines(wrong));
        }
        take(x, "A ".repeat(30));
        c.due("30 words", 30, () -> x.lines(1));
    }

    private void line() {
        TypeDesigner x = twoLetters();
        c.fails("without a proof", MISSING, () -> x.line(1, 0, 0));
        take(x, "  AB A  BA ");
        int[][] wants = {{1610, 2, 2}, {900, 8, 1}};
        for (int i = 0; i < 2; i++) {
            for (int k = 0; k < 3; k++) {
                int line = i;
                int what = k;
                c.due("line(1700, " + i + ", " + k + ")", wants[i][k], () -> x.line(1700, line, what));
            }
        }
        c.due("three words", 3, () -> x.line(100000, 0, 2));
        c.due("their width", 2760, () -> x.line(100000, 0, 0));
        c.due("an overfull line", 860, () -> x.line(1, 0, 0));
        c.due("the third line", 8, () -> x.line(1, 2, 1));
        x.setProof(-100, 50);
        c.due("two words with tracking", 760 + 500 - 150, () -> x.line(1700, 0, 0));
        c.fails("line(1700, 2, 0)", MISSING, () -> x.line(1700, 2, 0));
        c.fails("line(1700, -1, 0)", MISSING, () -> x.line(1700, -1, 0));
        c.fails("line(0, 0, 0)", ARGUMENT, () -> x.line(0, 0, 0));
        c.fails("line(100001, 0, 0)", ARGUMENT, () -> x.line(100001, 0, 0));
        c.fails("line(1, 9, 3)", ARGUMENT, () -> x.line(1, 9, 3));
        c.fails("line(1, 0, -1)", ARGUMENT, () -> x.line(1, 0, -1));
    }

    private void leastMeasure() {
        TypeDesigner x = twoLetters();
        c.due("without a proof", 1, () -> x.leastMeasure(1));
        take(x, "AB A  BA");
        c.due("leastMeasure(1)", 2760, () -> x.leastMeasure(1));
        c.due("leastMeasure(2)", 1610, () -> x.leastMeasure(2));
        c.due("leastMeasure(3)", 1, () -> x.leastMeasure(3));
        c.due("leastMeasure(60)", 1, () -> x.leastMeasure(60));
        c.fails("leastMeasure(0)", ARGUMENT, () -> x.leastMeasure(0));
        c.fails("leastMeasure(61)", ARGUMENT, () -> x.leastMeasure(61));
        measureThatIsNotSufficientForMore();
        measureOutOfRange();
        measureOfManyWords();
    }

    private void measureOfManyWords() {
        TypeDesigner x = glyphs(24);
        for (int i = 0; i < 24; i++) {
            x.setSide(i, 0, 16 * i - 100);
            x.setSide(i, 1, 7 * i * i % 400);
        }
        take(x, "A B C D E F G H I J K L M N O P Q R S T U V W X A C E G I K");
        int width = x.proofWidth();
        c.due("all 30 words in a line", width, () -> x.leastMeasure(1));
        c.due("one word in each line", 1, () -> x.leastMeasure(30));
        for (int i = 2; i < 30; i++) {
            int most = i;
            int want = 1;
            while (x.lines(want) > most) {
                want++;
            }
            c.due("leastMeasure(" + most + ")", want, () -> x.leastMeasure(most));
        }
    }

    /** With negative advances a greater measure can give more lines, so it takes more than halving to find the least one. */
    private void measureThatIsNotSufficientForMore() {
        TypeDesigner x = glyphs(4);
        x.setProof(0, 50);
        x.addContour(0, 0, 0, 100, 100);
        x.setSide(1, 0, -200);
        x.setSide(1, 1, -200);
        x.addContour(2, 0, 0, 1000, 100);
        x.addContour(3, 0, 0, 500, 100);
        // A is 200, B is -400, C is 1100, D is 600 wide, with a space of 50.
        take(x, "C B A D");
        int[][] wants = {{499, 3}, {500, 2}, {749, 2}, {750, 3}, {849, 3}, {850, 2}, {1649, 2}, {1650, 1}};
        for (int[] row : wants) {
            c.due("lines(" + row[0] + ") with negative advances", row[1], () -> x.lines(row[0]));
        }
        c.due("the least measure for two lines", 500, () -> x.leastMeasure(2));
        c.due("the least measure for one line", 1650, () -> x.leastMeasure(1));
        x.kernPair(0, 1, -300);
        take(x, "AB");
        c.due("a line of negative width", -500, () -> x.line(1, 0, 0));
        c.due("its least measure", 1, () -> x.leastMeasure(1));
    }

    private void measureOutOfRange() {
        TypeDesigner x = glyphs(24);
        x.setSide(0, 0, 400);
        for (int i = 1; i < 48; i++) {
            x.follow(i / 2, i % 2, (i - 1) / 2, (i - 1) % 2, 200);
        }
        // The last glyph is 19400 + 200 wide.
        take(x, "XXXXX X");
        c.due("its advance", 19400, () -> x.glyph(23, 5));
        c.fails("one line is wider than 100000", MISSING, () -> x.leastMeasure(1));
        c.due("two lines are enough", 1, () -> x.leastMeasure(2));
        x.setSide(0, 0, 0);
        c.due("a width beyond what one line takes", 18600, () -> x.glyph(23, 5));
        take(x, "XXXX X");
        c.due("all in one line", 18600 * 5 + 250, () -> x.leastMeasure(1));
        x.setProof(200, 1000);
        take(x, "XXXX X ");
        c.due("with much tracking", 18600 * 5 + 1000 + 5 * 200, () -> x.leastMeasure(1));
        x.addContour(23, -200, 0, 1000, 1);
        c.due("more than 98000", 19600 * 5 + 2000, () -> x.leastMeasure(1));
        x.kernPair(23, 23, 0);
        x.setClass(23, true, 0);
        x.setProof(200, 1000);
        x.movePoint(23, 0, 1, 1, 0);
        c.fails("one unit too wide", MISSING, () -> x.leastMeasure(1));
    }

    // ---- promises 35 and 36 ----

    private void meanAdvance() {
        TypeDesigner x = new TypeDesigner();
        c.fails("no glyph", ARITHMETIC, () -> x.meanAdvance());
        x.addGlyph(65);
        x.addGlyph(66);
        x.addGlyph(67);
        x.addContour(0, 0, 0, 100, 100);
        c.isDue("400 / 3", true, x.meanAdvance() == 400.0 / 3.0);
        x.setSide(1, 0, -200);
        x.setSide(1, 1, -200);
        x.setSide(2, 0, -200);
        c.isDue("a negative mean", true, x.meanAdvance() == -350.0 / 3.0);
    }

    private void account() {
        TypeDesigner x = glyphs(3);
        x.addContour(0, 0, 0, 10, 10);
        x.addContour(1, 0, 0, 20, 10);
        read(x, "B(0,0 20,0 0,5)(1,1 2,2 3,3 4,4 5,5)");
        x.follow(0, 0, 0, 1, 1);
        x.follow(1, 0, 0, 1, 2);
        x.kernClasses(0, 0, 9);
        x.kernClasses(1, 1, 0);
        x.setClass(0, true, 0);
        x.setClass(1, true, 0);
        x.setClass(1, false, 0);
        x.setClass(2, true, 1);
        x.setClass(2, false, 1);
        x.kernPair(0, 1, 0);
        x.kernPair(2, 0, -1);
        x.kernPair(2, 2, 0);
        x.kernPair(0, 0, 4);
        x.addStem(0, 0, 1);
        x.addStem(2, 0, 1);
        x.addStem(2, 4, 5);
        // Kerns that are not 0: of glyphs 1 and 1, 2 and 0, 0 and 0.
        accountsAre("a design", x, 3, 3, 12, 2, 2, 4, 3, 3, 111 + 122 + 100);
        c.fails("account(-1)", ARGUMENT, () -> x.account(-1));
        c.fails("account(9)", ARGUMENT, () -> x.account(9));
    }

    // ---- promises 37 and 38 ----

    private void readGlyph() {
        TypeDesigner x = glyphs(1);
        x.addContour(0, 0, 0, 10, 10);
        x.setSide(0, 0, 5);
        x.addStem(0, 1, 2);
        x.setClass(0, false, 3);
        c.due("a new glyph", 1, () -> read(x, "((0,0 10,-0 -200,1200)"));
        c.due("its code", '(', () -> x.glyph(1, 0));
        c.due("its last x", -200, () -> x.point(1, 0, 2, false));
        c.due("its last y", 1200, () -> x.point(1, 0, 2, true));
        c.due("-0", 0, () -> x.point(1, 0, 1, true));
        c.due("its advance", 310, () -> x.glyph(1, 5));
        c.due("a known glyph", 0, () -> read(x, "A(1,2 3,4 5,6)(7,8 9,10 11,12 13,14)(0,0 1,1 2,3)"));
        c.due("in place of its contours", 3, () -> x.glyph(0, 1));
        c.due("a point of it", 14, () -> x.point(0, 1, 3, true));
        c.due("its sidebearing stays", 5, () -> x.side(0, 0, 0));
        c.due("its stems stay", 1, () -> x.glyph(0, 8));
        c.due("its class stays", 3, () -> x.glyph(0, 7));
        c.due("fewer contours than before", 0, () -> read(x, "A(1,2 3,4 5,6)"));
        c.due("one contour", 1, () -> x.glyph(0, 1));
        c.due("with three points", 3, () -> x.glyph(0, 2));
        c.due("twelve points", 0, () -> read(x, "A(0,0 1,1 2,2 3,3 4,4 5,5 6,6 7,7 8,8 9,9 0,1 0,2)"));
        c.due("they are kept", 12, () -> x.points(0, 0));
        c.due("the last one", 2, () -> x.point(0, 0, 11, true));
        whatReadGlyphRefuses();
        readGlyphWithoutRoom();
    }

    private void whatReadGlyphRefuses() {
        String[] states = {"A(1201,0 1,1 2,2)", "A(0,1201 1,1 2,2)", "A(0,0 -201,0 2,2)", "A(0,0 1,1 2,-201)",
            "A(0,0 1,1 2,9999)", "A(0,0 1,1 2,2 3,3 4,4 5,5 6,6 7,7 8,8 9,9 0,1 0,2 0,3)",
            "A(0,0 1,1 2,2)(0,0 1,1 2,2)(0,0 1,1 2,2)(0,0 1,1 2,2)"};
        for (String text : states) {
            TypeDesigner x = glyphs(1);
            c.fails(text, STATE, () -> read(x, text));
            c.due("the glyph stays empty", 0, () -> x.glyph(0, 1));
            c.due("no fault position", -1, () -> x.faultPosition());
            c.due("the buffer is empty", 0, () -> x.takeProof());
            c.due("no change", 0, () -> x.undo());
        }
        String[] faults = {"", "A", "A(0,0 1,1 2,2)(", " (0,0 1,1 2,2)", "A(0,0 1,1)", "A(0,0 1,1 2,2) "};
        for (String text : faults) {
            TypeDesigner x = glyphs(1);
            c.fails(text, ARGUMENT, () -> read(x, text));
            c.due("the glyph stays empty", 0, () -> x.glyph(0, 1));
            c.due("the buffer is empty", 0, () -> x.takeProof());
        }
        TypeDesigner y = glyphs(1);
        c.fails("a fault after a coordinate out of range", ARGUMENT, () -> read(y, "A(9999,0 1,1 2,2"));
    }

    private void readGlyphWithoutRoom() {
        TypeDesigner x = glyphs(24);
        c.fails("a 25th glyph", STATE, () -> read(x, "z(0,0 1,1 2,0)"));
        c.due("one of the 24", 23, () -> read(x, "X(0,0 1,1 2,0)"));
        c.fails("a 25th glyph with a fault", ARGUMENT, () -> read(x, "z(0,0 1,1 2,0"));
    }

    private void faultPosition() {
        Object[][] faults = {
            {"", 0}, {" ", 0}, {"\u007f(", 0}, {"!", 1}, {"~", 1}, {"A0", 1}, {"A)", 1}, {"AA(", 1},
            {"A(", 2}, {"A( ", 2}, {"A(,", 2}, {"A()", 2}, {"A((", 2}, {"A(--", 3}, {"A(-", 3}, {"A(-,", 3},
            {"A(0", 3}, {"A(00", 3}, {"A(01", 3}, {"A(-00", 4}, {"A(-0,", 5}, {"A(0-", 3}, {"A(0 ", 3}, {"A(0)", 3},
            {"A(1234", 6}, {"A(12345", 6}, {"A(-1234,", 8}, {"A(-12345", 7}, {"A(10,", 5}, {"A(0,,", 4},
            {"A(0, ", 4}, {"A(0,)", 4}, {"A(0,0", 5}, {"A(0,0,", 5}, {"A(0,0)", 5}, {"A(0,00", 5}, {"A(0,0 ", 6},
            {"A(0,0  ", 6}, {"A(0,0 )", 6}, {"A(0,0 1,1)", 9}, {"A(0,0 1,1(", 9}, {"A(0,0 1,1 ", 10},
            {"A(0,0 1,1 2", 11}, {"A(0,0 1,1 2)", 11}, {"A(0,0 1,1 2,2", 13}, {"A(0,0 1,1 2,2,", 13},
            {"A(0,0 1,1 2,2 )", 14}, {"A(0,0 1,1 2,2))", 14}, {"A(0,0 1,1 2,2) ", 14}, {"A(0,0 1,1 2,2)0", 14},
            {"A(0,0 1,1 2,2)(", 15}, {"A(0,0 1,1 2,2)(0,0 1,1)", 22}, {"A(0,0 1,1 2,2)(0,0 1,1 2,2", 26},
            {"A(0,0 1,1 2,12345)", 16}, {"A(0,0 1,1 2,-)", 13}, {"A(0,0 1,1 2,2:", 13}, {"A(0,0 1,1 2,/", 12},
        };
        for (Object[] row : faults) {
            TypeDesigner x = new TypeDesigner();
            String text = (String) row[0];
            int want = (Integer) row[1];
            c.fails("reading '" + text + "'", ARGUMENT, () -> read(x, text));
            c.due("faultPosition() of '" + text + "'", want, () -> x.faultPosition());
        }
        TypeDesigner x = new TypeDesigner();
        c.fails("a fault", ARGUMENT, () -> read(x, "A("));
        x.save();
        type(x, "B");
        c.due("it stays while the buffer changes", 2, () -> x.faultPosition());
        x.restore();
        c.due("it stays over restore", 2, () -> x.faultPosition());
        c.due("the buffer, too", 0, () -> read(x, "(0,0 1,0 1,1)"));
        c.due("a text without a fault", -1, () -> x.faultPosition());
        c.fails("a fault at a character beyond 255", ARGUMENT, () -> read(x, "A" + (char) (256 + '(')));
        c.due("its fault position", 1, () -> x.faultPosition());
        x.undo();
        c.due("it stays over undo", 1, () -> x.faultPosition());
    }

    // ---- promises 39 to 41 ----

    private void undo() {
        TypeDesigner x = new TypeDesigner();
        c.fails("undo() at first", STATE, () -> x.undo());
        for (int i = 0; i < 10; i++) {
            x.addGlyph(65 + i);
        }
        for (int i = 7; i >= 0; i--) {
            int want = i;
            c.due("undo() down to " + i, want, () -> x.undo());
            c.due("glyphs then", 2 + i, () -> x.account(0));
        }
        c.fails("the two first changes are not kept", STATE, () -> x.undo());
        c.due("two glyphs stay", 2, () -> x.account(0));
        x.addGlyph(90);
        c.due("a change after undoing", 0, () -> x.undo());
        undoOfEachChange();
        undoForgetsTheProofAlone();
    }

    /** Each kind of change counts once and can be undone; a call that fails does not count. */
    private void undoOfEachChange() {
        TypeDesigner x = twoLetters();
        x.kernClasses(0, 0, 5);
        x.addStem(0, 10, 20);
        x.addStem(0, 50, 70);
        x.follow(1, 0, 1, 1, 7);
        Runnable[] changes = {() -> x.addGlyph(90), () -> x.addContour(0, 5, 5, 5, 5), () -> x.movePoint(0, 0, 0, -9, 0),
            () -> x.shift(0, 3, 4), () -> x.setSide(0, 0, 51), () -> x.follow(0, 1, 1, 0, 9),
            () -> x.follow(1, 0, 1, 1, 8), () -> x.setSide(1, 0, 8), () -> x.addStem(0, -9, 0),
            () -> x.setClass(0, true, 1), () -> x.setClass(0, false, 1), () -> x.kernClasses(0, 0, 6),
            () -> x.kernClasses(0, 1, 6), () -> x.kernPair(0, 1, 8), () -> x.kernPair(1, 1, 8),
            () -> x.dropKern(true, 0, 1), () -> x.dropKern(false, 0, 0), () -> x.addStem(0, 30, 40),
            () -> x.removeStem(0, 0), () -> x.setProof(7, 77), () -> read(x, "A(0,0 1,1 2,0)"),
            () -> read(x, "~(0,0 1,1 2,0)")};
        String before = describe(x);
        for (int i = 0; i < changes.length; i++) {
            changes[i].run();
            c.isDue("change " + i + " changes the design", true, !before.equals(describe(x)));
            x.undo();
            c.isDue("change " + i + " is undone", true, before.equals(describe(x)));
        }
        Runnable[] idle = {() -> x.movePoint(0, 0, 0, 0, 0), () -> x.shift(1, 0, 0), () -> x.setSide(0, 0, 50),
            () -> x.setClass(0, true, -1), () -> x.kernClasses(0, 0, 5), () -> x.kernPair(0, 1, -40),
            () -> x.setProof(0, 250)};
        x.save();
        x.restore();
        for (int i = 0; i < idle.length; i++) {
            idle[i].run();
            c.due("change " + i + " without effect counts", 0, () -> x.undo());
        }
        failuresAreNoChanges(x);
    }

    private void failuresAreNoChanges(TypeDesigner x) {
        String before = describe(x);
        c.fails("addGlyph", STATE, () -> x.addGlyph(65));
        c.fails("addContour", ARGUMENT, () -> x.addContour(0, 0, 0, 0, 0));
        c.fails("movePoint", ARGUMENT, () -> x.movePoint(0, 0, 0, 0, 5000));
        c.fails("shift", ARGUMENT, () -> x.shift(0, 0, 5000));
        c.fails("setSide", ARGUMENT, () -> x.setSide(0, 0, 401));
        c.fails("follow", UNSUPPORTED, () -> x.follow(0, 0, 0, 0, 0));
        c.fails("setClass", ARGUMENT, () -> x.setClass(0, true, 6));
        c.fails("kernClasses", ARGUMENT, () -> x.kernClasses(0, 0, 301));
        c.fails("kernPair", ARGUMENT, () -> x.kernPair(0, 0, 301));
        c.fails("dropKern", MISSING, () -> x.dropKern(true, 1, 1));
        c.fails("addStem", STATE, () -> x.addStem(0, 10, 20));
        c.fails("removeStem", INDEX, () -> x.removeStem(0, 2));
        c.fails("setProof", ARGUMENT, () -> x.setProof(201, 50));
        c.fails("readGlyph", ARGUMENT, () -> x.readGlyph());
        c.isDue("the design stays", true, before.equals(describe(x)));
        c.fails("no failure is kept", STATE, () -> x.undo());
    }

    private void undoForgetsTheProofAlone() {
        TypeDesigner x = twoLetters();
        take(x, "AB");
        type(x, "A");
        x.undo();
        c.fails("undo forgets the proof", MISSING, () -> x.proofWidth());
        c.due("without lines", 0, () -> x.lines(10));
        c.due("undo leaves the buffer", 1, () -> x.takeProof());
        TypeDesigner y = glyphs(1);
        y.undo();
        y.addGlyph(66);
        y.save();
        y.restore();
        take(y, "B");
        c.fails("no change is kept", STATE, () -> y.undo());
        c.due("then the proof stays", 100, () -> y.proofWidth());
    }

    private void save() {
        TypeDesigner x = glyphs(1);
        take(x, "A");
        x.save();
        c.due("the proof stays", 100, () -> x.proofWidth());
        c.due("save is no change", 0, () -> x.undo());
        x.addGlyph(70);
        x.addGlyph(71);
        x.save();
        x.addGlyph(72);
        x.restore();
        c.due("in place of an earlier snapshot", 2, () -> x.account(0));
        c.due("the design that was saved", 70, () -> x.glyph(0, 0));
        TypeDesigner y = new TypeDesigner();
        y.save();
        y.addGlyph(65);
        y.restore();
        c.due("an empty design can be saved", 0, () -> y.account(0));
        TypeDesigner z = glyphs(1);
        z.save();
        z.undo();
        z.addGlyph(99);
        z.restore();
        c.due("the code that was saved", 0, () -> z.find(65));
    }

    private void restore() {
        TypeDesigner x = twoLetters();
        c.fails("there is no snapshot", STATE, () -> x.restore());
        take(x, "AB");
        c.fails("no snapshot", STATE, () -> x.restore());
        c.due("then the proof stays", 860, () -> x.proofWidth());
        x.setProof(9, 99);
        x.follow(0, 0, 1, 1, 3);
        x.setClass(1, false, 2);
        x.kernClasses(1, 2, 4);
        x.addStem(1, 5, 6);
        x.follow(1, 0, 1, 1, -20);
        String saved = describe(x);
        x.save();
        x.setProof(0, 250);
        x.shift(0, 1, 1);
        x.removeStem(1, 0);
        x.addStem(1, 55, 66);
        x.follow(1, 0, 1, 1, -21);
        x.setSide(0, 0, 0);
        x.dropKern(false, 1, 2);
        x.dropKern(true, 0, 1);
        x.setClass(1, false, -1);
        read(x, "C(0,0 1,1 2,0)");
        take(x, "AB");
        type(x, "A");
        x.restore();
        c.fails("the changes are forgotten", STATE, () -> x.undo());
        c.fails("the proof, too", MISSING, () -> x.proofWidth());
        c.due("the buffer is not", 1, () -> x.takeProof());
        c.isDue("the design that was saved", true, saved.equals(describe(x)));
        x.addGlyph(99);
        c.due("restore is no change", 0, () -> x.undo());
        x.addContour(1, 7, 7, 7, 7);
        x.restore();
        c.isDue("the snapshot is kept", true, saved.equals(describe(x)));
    }

    /** All of the document's limits are reached at once, and no glyph answers for another one. */
    private void fullDesign() {
        TypeDesigner x = glyphs(24);
        for (int glyph = 0; glyph < 24; glyph++) {
            fillGlyph(x, glyph);
        }
        x.follow(0, 0, 23, 1, 200);
        for (int i = 0; i < 40; i++) {
            x.kernPair(23 - i / 20, 23 - i % 20, i - 20);
        }
        for (int glyph = 0; glyph < 24; glyph++) {
            askFullGlyph(x, glyph);
        }
        for (int i = 0; i < 40; i++) {
            int at = i;
            c.due("kern " + i, i - 20, () -> x.kern(23 - at / 20, 23 - at % 20));
        }
        accountsAre("a full design", x, 24, 72, 24 * 20, 1, 0, 40, 39, 96);
        c.due("dropKern of the last pair", -20, () -> x.dropKern(true, 23, 23));
        String before = describe(x);
        x.shift(5, 1, -1);
        c.due("a shifted glyph", 6, () -> x.point(5, 0, 0, false));
        c.due("the next glyph stays", 6, () -> x.point(6, 0, 0, false));
        c.due("the next contour moves once", 9, () -> x.point(5, 1, 0, true));
        x.undo();
        c.isDue("all is undone", true, before.equals(describe(x)));
    }

    /** Twelve points in the first contour, and two boxes. */
    private static void fillGlyph(TypeDesigner x, int glyph) {
        StringBuilder text = new StringBuilder().append((char) (65 + glyph));
        for (int i = 0; i < 12; i++) {
            text.append(i == 0 ? '(' : ' ').append((glyph + i) % 10).append(',').append((3 * i + glyph) % 9);
        }
        read(x, text.append(')').toString());
        x.addContour(glyph, glyph, 2 * glyph, 100 + glyph, 200);
        x.addContour(glyph, 3 * glyph, 4 * glyph, 300 + glyph, 400);
        x.setSide(glyph, 0, 2 * glyph);
        x.setSide(glyph, 1, -3 * glyph);
        x.setClass(glyph, true, glyph % 6);
        x.setClass(glyph, false, glyph % 5);
        for (int stem = 0; stem < 4; stem++) {
            x.addStem(glyph, 100 * stem + glyph, 100 * stem + 2 * glyph + 1);
        }
    }

    private void askFullGlyph(TypeDesigner x, int glyph) {
        c.due("code of " + glyph, 65 + glyph, () -> x.glyph(glyph, 0));
        for (int i = 0; i < 12; i++) {
            int point = i;
            c.due("x of " + glyph + ", " + i, (glyph + i) % 10, () -> x.point(glyph, 0, point, false));
            c.due("y of " + glyph + ", " + i, (3 * i + glyph) % 9, () -> x.point(glyph, 0, point, true));
        }
        c.due("points of " + glyph, 12, () -> x.points(glyph, 0));
        c.due("points of the second contour", 4, () -> x.points(glyph, 1));
        c.due("x of the second contour", glyph, () -> x.point(glyph, 1, 3, false));
        c.due("y of the second contour", 2 * glyph + 200, () -> x.point(glyph, 1, 3, true));
        c.due("x of the third contour", 4 * glyph + 300, () -> x.point(glyph, 2, 1, false));
        c.due("y of the third contour", 4 * glyph, () -> x.point(glyph, 2, 1, true));
        c.due("left side", glyph == 0 ? -3 * 23 + 200 : 2 * glyph, () -> x.side(glyph, 0, 0));
        c.due("right side", -3 * glyph, () -> x.side(glyph, 1, 0));
        c.due("first class", glyph % 6, () -> x.glyph(glyph, 6));
        c.due("second class", glyph % 5, () -> x.glyph(glyph, 7));
        for (int i = 0; i < 4; i++) {
            int stem = i;
            c.due("left end of " + i, 100 * i + glyph, () -> x.stem(glyph, stem, false));
            c.due("right end of " + i, 100 * i + 2 * glyph + 1, () -> x.stem(glyph, stem, true));
        }
        int sum = 2 * (100 + glyph) * 200 + 2 * (300 + glyph) * 400;
        int twelve = 0;
        for (int i = 0; i < 12; i++) {
            int next = (i + 1) % 12;
            twelve += (glyph + i) % 10 * ((3 * next + glyph) % 9) - (glyph + next) % 10 * ((3 * i + glyph) % 9);
        }
        int want = sum + twelve;
        c.due("area of " + glyph, want, () -> x.glyph(glyph, 9));
    }

    /** All that can be asked of a design, so that two designs can be compared. */
    private static String describe(TypeDesigner x) {
        StringBuilder text = new StringBuilder();
        for (int what = 0; what <= 8; what++) {
            text.append(x.account(what)).append(' ');
        }
        int glyphs = x.account(0);
        for (int glyph = 0; glyph < glyphs; glyph++) {
            describeGlyph(x, glyph, text);
        }
        for (int first = 0; first < glyphs; first++) {
            for (int second = 0; second < glyphs; second++) {
                text.append(x.kern(first, second)).append('/').append(x.why(first, second)).append(' ');
            }
        }
        for (int classes = 0; classes < 36; classes++) {
            text.append(classKern(x, classes / 6, classes % 6)).append(' ');
        }
        type(x, "AA");
        x.takeProof();
        text.append(x.proofWidth()).append(' ');
        int space = x.setProof(0, 250);
        x.undo();
        return text.append(space).toString();
    }

    private static String classKern(TypeDesigner x, int first, int second) {
        try {
            int kern = x.dropKern(false, first, second);
            x.undo();
            return Integer.toString(kern);
        } catch (NoSuchElementException e) {
            return "none";
        }
    }

    private static void describeGlyph(TypeDesigner x, int glyph, StringBuilder text) {
        for (int what = 0; what <= 9; what++) {
            text.append(x.glyph(glyph, what)).append(' ');
        }
        for (int side = 0; side < 2; side++) {
            for (int what = 0; what <= 3; what++) {
                text.append(x.side(glyph, side, what)).append(' ');
            }
        }
        for (int stem = 0; stem < x.glyph(glyph, 8); stem++) {
            text.append(x.stem(glyph, stem, false)).append('-').append(x.stem(glyph, stem, true)).append(' ');
        }
        for (int contour = 0; contour < x.glyph(glyph, 1); contour++) {
            for (int point = 0; point < x.points(glyph, contour); point++) {
                text.append(x.point(glyph, contour, point, false)).append(',');
                text.append(x.point(glyph, contour, point, true)).append(' ');
            }
        }
    }
}
