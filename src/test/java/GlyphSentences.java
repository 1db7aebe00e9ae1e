/** The sentences on glyphs: promises 1 to 10. */
final class GlyphSentences extends Sentences {
    /** A glyph with a contour of twelve points, and two boxes. */
    private static final Calls TWELVE = read("A(0,0 1,1 2,2 3,3 4,4 5,5 6,6 7,7 8,8 9,9 0,1 -3,2)").then(x -> {
        x.addContour(0, 10, 20, 30, 40);
        x.addContour(0, 100, 200, 300, 400);
    });
    /** Two glyphs: a triangle and a small box, and a box as great as coordinates allow. */
    private static final Calls TRIANGLE = read("A(0,0 100,0 50,90)").then(glyph('B')).then(x -> {
        x.addContour(0, 5, 6, 7, 8);
        x.addContour(1, -200, -200, 1400, 1400);
    });

    /** Three glyphs of three boxes each: what is beside a glyph's first or last contour is one of another glyph. */
    private static final Calls NEIGHBOURS = glyphs(3).then(x -> {
        for (int i = 0; i < 9; i++) {
            x.addContour(i / 3, 100 + 10 * i, 200 + 10 * i, 100 - i, 50 + i);
        }
    });
    /** A contour of three points in the place of one of twelve points. */
    private static final Calls FEWER = read("A(-9,-9 1,1 -8,2 33,3 44,4 5,55 6,66 7,7 8,8 9,9 0,1 0,2)")
            .then(read("A(5,5 20,5 5,20)"));

    GlyphSentences(Checks checks, Quotes quotes) {
        super(checks, quotes);
    }

    private static Calls glyph(int code) {
        return x -> x.addGlyph(code);
    }

    /** A glyph with one box. */
    private static Calls box(int x, int y, int width, int height) {
        return glyphs(1).then(design -> design.addContour(0, x, y, width, height));
    }

    @Override
    void testAll() {
        whatItIs();
        descriptionOfGlyphs();
        descriptionOfEdges();
        descriptionOfAreas();
        newObject();
        addGlyph();
        addGlyphWithoutRoom();
        addContour();
        anyIntOfAddContour();
        refusedContours();
        movePoint();
        refusedPoints();
        shift();
        refusedShifts();
        glyph();
        find();
        points();
        point();
        area();
    }

    private void whatItIs() {
        section("What it is");
        sentence("An object is used for at most 512 calls after it has been made; what later calls answer is free.");
        test("each of 512 calls is answered, though all are changes", () -> {
            Designer x = box(0, 0, 10, 10).made();
            for (int call = 3; call <= 511; call++) {
                int dx = call % 2 == 1 ? 1 : -1;
                same(call % 2, x.movePoint(0, 0, 0, dx, 0));
            }
            same(7, x.undo());
        });
        test("each of 512 calls is answered, though all but the last are refused", () -> {
            Designer x = new Designer();
            for (int call = 1; call <= 511; call++) {
                same(STATE.getName(), Calls.outcome(x, Designer::undo));
            }
            same(0, x.addGlyph('A'));
        });
    }

    // ---- the description ----

    private void descriptionOfGlyphs() {
        description("Glyphs");
        sentence("At most 24 glyphs are kept, numbered from 0 in the order in which they were added.");
        test("the 24th glyph is kept", () -> answers(23, glyphs(23), x -> x.addGlyph('z')));
        test("a 25th glyph is not", () -> refuses(STATE, FULL, x -> x.addGlyph('z')));
        test("the numbers are 0 to 23 in this order", () -> {
            for (int i = 0; i < 24; i++) {
                int number = i;
                answers('A' + i, FULL, x -> x.glyph(number, 0));
            }
        });
        test("a lower code that comes later has the greater number", () ->
                answers(1, glyph('z').then(glyph('!')), x -> x.find('!')));
        sentence("A glyph has a code, 33 to 126, that no other glyph has, and at most 3 contours, numbered from 0; "
                + "a contour has 3 to 12 points, numbered from 0, whose coordinates x and y are from -200 to 1200.");
        test("codes 33 and 126, and none beyond", () ->
                takesOnly(33, 126, ARGUMENT, NEW, (x, code) -> x.addGlyph(code)));
        test("no second glyph with a code", () -> refuses(STATE, glyph(33), x -> x.addGlyph(33)));
        test("3 contours, numbered 0, 1, 2", () -> {
            answersInTurn(numbers(0, 1, 2), glyphs(1), x -> x.addContour(0, 1, 2, 3, 4));
            refuses(STATE, TWELVE, x -> x.addContour(0, 1, 2, 3, 4));
        });
        test("3 and 12 points, neither 2 nor 13", () -> {
            answers(3, TRIANGLE, x -> x.points(0, 0));
            answers(12, TWELVE, x -> x.points(0, 0));
            throwsThis(ARGUMENT, typed("A(0,0 1,1)"), Designer::readGlyph);
            throwsThis(STATE, typed("A(0,0 1,1 2,2 3,3 4,4 5,5 6,6 7,7 8,8 9,9 0,1 0,2 0,3)"), Designer::readGlyph);
        });
        test("coordinates of -200 and 1200", () ->
                answersEach(numbers(-200, -200, 1200, 1200), box(-200, -200, 1400, 1400),
                        (x, i) -> x.point(0, 0, i / 2 * 2, i % 2 == 1)));
        sentence("Each point is joined to the next one, and the last one to the first one.");
        test("the side from the last point to the first one counts for the area", () ->
                answers(100, read("A(10,10 20,10 10,20)"), x -> x.area(0, 0)));
        test("and for pixels", () -> {
            answers(1, read("A(1000,1000 0,1000 0,0 1000,0)"), x -> bit(x.isBlack(0, 10, 5, 5)));
            answers(0, read("A(1000,1000 0,1000 0,0 1000,0)"), x -> bit(x.isBlack(0, 10, 10, 5)));
        });
        test("of 12 points, too", () ->
                answers(2 * 9 * 8, read("A(0,0 1,0 2,0 3,0 4,0 9,0 9,5 9,8 5,8 3,8 0,8 0,4)"), x -> x.area(0, 0)));
    }

    private void descriptionOfEdges() {
        description("Glyphs");
        sentence("A glyph without contours is empty.");
        test("a new one is empty, and a contour makes an end of that", () -> {
            answers(0, glyphs(1), x -> x.glyph(0, 1));
            answers(1, box(0, 0, 1, 1), x -> x.glyph(0, 1));
        });
        sentence("The left and right edge of a glyph are the least and the greatest x of all of its points, 0 for "
                + "an empty one.");
        test("all points right of 0", () -> {
            answers(300, box(300, 0, 100, 10), x -> x.glyph(0, 3));
            answers(400, box(300, 0, 100, 10), x -> x.glyph(0, 4));
        });
        test("all points left of 0", () -> {
            answers(-200, box(-200, 0, 100, 10), x -> x.glyph(0, 3));
            answers(-100, box(-200, 0, 100, 10), x -> x.glyph(0, 4));
        });
        test("the least x at the last point of the last contour, the greatest x at its first one", () -> {
            Calls scene = read("A(0,0 10,0 5,9)(1,0 9,0 5,9)(22,0 9,0 -7,9)");
            answers(-7, scene, x -> x.glyph(0, 3));
            answers(22, scene, x -> x.glyph(0, 4));
        });
        test("the least x at the first point of a later contour, the greatest x at its last one", () -> {
            Calls scene = read("A(0,0 10,0 5,9)(-7,0 9,0 5,9)(2,0 9,0 22,9)");
            answers(-7, scene, x -> x.glyph(0, 3));
            answers(22, scene, x -> x.glyph(0, 4));
        });
        test("points of the glyphs before and behind do not count, nor those that a text has taken away", () -> {
            answersEach(numbers(130, 245), NEIGHBOURS, (x, i) -> x.glyph(1, 3 + i));
            answersEach(numbers(5, 20), FEWER, (x, i) -> x.glyph(0, 3 + i));
        });
        test("y does not count", () -> {
            answers(50, box(50, -100, 10, 900), x -> x.glyph(0, 3));
            answers(60, box(50, -100, 10, 900), x -> x.glyph(0, 4));
        });
        test("an empty one, beside one that is not", () -> {
            answers(0, FURNISHED, x -> x.glyph(2, 3));
            answers(0, FURNISHED, x -> x.glyph(2, 4));
        });
    }

    private void descriptionOfAreas() {
        description("Glyphs");
        sentence("Twice the area of a contour is the sum of x * v - u * y over all points x,y, where u,v is the "
                + "next point; it is negative if the contour runs clockwise.");
        test("counterclockwise and clockwise", () -> {
            answers(100, read("A(0,0 10,0 0,10)"), x -> x.area(0, 0));
            answers(-100, read("A(0,0 0,10 10,0)"), x -> x.area(0, 0));
        });
        test("with coordinates below 0", () -> answers(800, read("A(-20,-20 0,-20 0,20)"), x -> x.area(0, 0)));
        test("points on a line, and a contour that crosses itself, have an area of 0", () -> {
            answers(0, read("A(5,5 6,6 7,7)"), x -> x.area(0, 0));
            answers(0, read("A(0,0 10,10 10,0 0,10)"), x -> x.area(0, 0));
        });
        test("the greatest box", () -> answers(2 * 1400 * 1400, TRIANGLE, x -> x.area(1, 0)));
        test("points that a text has taken away do not count", () -> answers(225, FEWER, x -> x.area(0, 0)));
    }

    // ---- promises 1 and 2 ----

    private void newObject() {
        promise(1);
        sentence("Creates a design without glyphs.");
        test("all accounts are 0", () -> answersEach(new long[9], NEW, (x, what) -> x.account(what)));
        test("no glyph has a number or a code", () -> {
            refuses(INDEX, NEW, x -> x.glyph(0, 0));
            refuses(MISSING, NEW, x -> x.find('A'), x -> x.find(0), x -> x.find(' '));
        });
        test("no kern is told", () -> {
            refuses(MISSING, NEW, x -> x.dropKern(true, 0, 0));
            for (int i = 0; i < 36; i++) {
                int classes = i;
                throwsThis(MISSING, NEW, x -> x.dropKern(false, classes / 6, classes % 6));
            }
        });
        test("no mean advance, change, snapshot, proof, fault or text", () -> {
            refuses(ARITHMETIC, NEW, x -> (long) x.meanAdvance());
            refuses(STATE, NEW, Designer::undo, Designer::restore);
            refuses(MISSING, NEW, Designer::proofWidth);
            answers(-1, NEW, Designer::faultPosition);
            answers(0, NEW, Designer::takeProof);
        });
        test("two objects share nothing", () -> {
            Designer old = FURNISHED.made();
            Designer fresh = new Designer();
            same(0, fresh.account(0));
            fresh.addGlyph('z');
            fresh.append('z');
            fresh.takeProof();
            same(MISSING.getName(), Calls.outcome(old, x -> x.find('z')));
            same(3, old.account(0));
            same(2, old.takeProof());
        });
    }

    private void addGlyph() {
        promise(2);
        sentence("Adds an empty glyph.");
        test("a first one, with all at its beginning", () -> {
            answersEach(numbers('A', 0, 0, 0, 0, 100, -1, -1, 0, 0), glyphs(1), (x, what) -> x.glyph(0, what));
            answersEach(numbers(50, -1, -1, 0), glyphs(1), (x, what) -> x.side(0, 1, what));
        });
        test("one after furnished ones, and the 24th one", () -> {
            answersEach(numbers('z', 0, 0, 0, 0, 100, -1, -1, 0, 0), FURNISHED.then(glyph('z')),
                    (x, what) -> x.glyph(3, what));
            answersEach(numbers('X', 0, 0, 0, 0, 100, -1, -1, 0, 0), glyphs(24), (x, what) -> x.glyph(23, what));
        });
        test("one in the place of a furnished one that was undone", () -> {
            Calls undone = box(1, 2, 3, 4).then(x -> {
                x.addStem(0, 5, 6);
                x.setSide(0, 0, 7);
                x.setClass(0, true, 0);
                x.kernPair(0, 0, 9);
                for (int i = 0; i < 6; i++) {
                    x.undo();
                }
            });
            same(State.ofDesign(glyphs(1)), State.ofDesign(undone.then(glyph('A'))));
        });
        sentence("Returns the number of the glyph.");
        test("0 for the first one, 23 for the last one", () -> {
            answers(0, NEW, x -> x.addGlyph('A'));
            answers(23, glyphs(23), x -> x.addGlyph('z'));
        });
        test("a number that undo has made free", () ->
                answers(2, glyphs(3).then(Designer::undo), x -> x.addGlyph('z')));
    }

    private void addGlyphWithoutRoom() {
        promise(2);
        sentence("Throws `IllegalArgumentException` if the code is out of range");
        test("33 and 126 are taken; 32, 127 and all beyond are not", () ->
                takesOnly(33, 126, ARGUMENT, FURNISHED, (x, code) -> x.addGlyph(code)));
        sentence("Throws `IllegalStateException` if 24 glyphs are kept or one has this code");
        test("24 are kept", () -> refuses(STATE, FULL, x -> x.addGlyph('z'), x -> x.addGlyph(33)));
        test("24 are kept, and one of them has this code", () ->
                refuses(STATE, FULL, x -> x.addGlyph('A'), x -> x.addGlyph('X')));
        test("23 are kept", () -> answers(23, glyphs(23), x -> x.addGlyph('X')));
        test("the first, the second or the last glyph has this code", () ->
                refuses(STATE, FURNISHED, x -> x.addGlyph('A'), x -> x.addGlyph('B'), x -> x.addGlyph('C')));
        test("after undo there is room, and the code is free", () -> {
            answers(23, glyphs(24).then(Designer::undo), x -> x.addGlyph('X'));
            answers(23, glyphs(24).then(Designer::undo), x -> x.addGlyph('z'));
        });
    }

    // ---- promise 3 ----

    private void addContour() {
        promise(3);
        sentence("Adds a contour in the form of a box, the last one of the glyph: from the lower left corner to "
                + "the lower right, upper right and upper left one.");
        test("the corners in this order", () ->
                answersEach(numbers(10, 20, 40, 20, 40, 60, 10, 60), box(10, 20, 30, 40),
                        (x, i) -> x.point(0, 0, i / 2, i % 2 == 1)));
        test("four points", () -> answers(4, box(1, 2, 3, 4), x -> x.points(0, 0)));
        test("it is the last one, and those before it stay", () -> {
            Calls two = TRIANGLE.then(x -> x.addContour(0, 1, 2, 3, 4));
            answersEach(numbers(3, 4, 4), two, (x, contour) -> x.points(0, contour));
            answersEach(numbers(0, 5, 1), two, (x, contour) -> x.point(0, contour, 0, false));
        });
        test("the smallest box and the greatest one", () -> {
            answers(2, box(0, 0, 1, 1), x -> x.area(0, 0));
            answers(2 * 1400 * 1400, box(-200, -200, 1400, 1400), x -> x.area(0, 0));
        });
        test("in the place of contours with more points", () -> {
            Calls smaller = TWELVE.then(typed("A(0,0 1,0 0,1)")).then(Designer::readGlyph);
            answers(1, smaller, x -> x.addContour(0, 1, 2, 3, 4));
            answers(4, smaller.then(x -> x.addContour(0, 1, 2, 3, 4)), x -> x.points(0, 1));
            answers(7, smaller.then(x -> x.addContour(0, 1, 2, 3, 4)), x -> x.glyph(0, 2));
        });
        sentence("Returns the number of the contour.");
        test("0, 1, 2", () -> answersInTurn(numbers(0, 1, 2), glyphs(2), x -> x.addContour(1, 0, 0, 5, 5)));
    }

    private void anyIntOfAddContour() {
        promise(3);
        sentence("`x`: the least x, any int");
        test("-200 and 1199 with a width of 1, and no int beyond", () ->
                takesOnly(-200, 1199, ARGUMENT, FURNISHED, (x, left) -> x.addContour(2, left, 0, 1, 1)));
        test("none whose sum with the width wraps around", () -> refuses(ARGUMENT, FURNISHED,
                x -> x.addContour(2, MAX, 0, MAX, 1), x -> x.addContour(2, MAX, 0, 1, 1),
                x -> x.addContour(2, MIN, 0, MAX, 1), x -> x.addContour(2, MIN + 200, 0, MAX, 1)));
        sentence("`y`: the least y, any int");
        test("-200 and 1199 with a height of 1, and no int beyond", () ->
                takesOnly(-200, 1199, ARGUMENT, FURNISHED, (x, low) -> x.addContour(2, 0, low, 1, 1)));
        test("none whose sum with the height wraps around", () -> refuses(ARGUMENT, FURNISHED,
                x -> x.addContour(2, 0, MAX, 1, MAX), x -> x.addContour(2, 0, MAX, 1, 1),
                x -> x.addContour(2, 0, MIN, 1, MAX), x -> x.addContour(2, 0, MIN + 200, 1, MAX)));
        sentence("`width`: the width, any int");
        test("1 and 1400, and no int beyond", () ->
                takesOnly(1, 1400, ARGUMENT, FURNISHED, (x, width) -> x.addContour(2, -200, 0, width, 1)));
        test("none whose sum with x wraps around", () -> refuses(ARGUMENT, FURNISHED,
                x -> x.addContour(2, 1200, 0, MAX, 1), x -> x.addContour(2, 1, 0, MAX, 1)));
        sentence("`height`: the height, any int");
        test("1 and 1400, and no int beyond", () ->
                takesOnly(1, 1400, ARGUMENT, FURNISHED, (x, height) -> x.addContour(2, 0, -200, 1, height)));
        test("none whose sum with y wraps around", () -> refuses(ARGUMENT, FURNISHED,
                x -> x.addContour(2, 0, 1200, 1, MAX), x -> x.addContour(2, 0, 1, 1, MAX)));
    }

    private void refusedContours() {
        promise(3);
        sentence("Throws `IndexOutOfBoundsException` if there is no such glyph");
        test("one beyond the last, -1, far ones, and 0 of none", () ->
                needsGlyph((x, glyph) -> x.addContour(glyph, 0, 0, 10, 10)));
        sentence("Throws `IllegalArgumentException` if the width or the height is less than 1, or a coordinate "
                + "would be out of range");
        test("a width or height of 0 and less", () -> refuses(ARGUMENT, FURNISHED,
                x -> x.addContour(2, 0, 0, 0, 1), x -> x.addContour(2, 0, 0, 1, 0), x -> x.addContour(2, 0, 0, -1, 1),
                x -> x.addContour(2, 0, 0, 1, -1), x -> x.addContour(2, 500, 500, -100, -100),
                x -> x.addContour(2, 0, 0, MIN, 1), x -> x.addContour(2, 0, 0, 1, MIN)));
        test("a width and height of 1", () -> answers(0, FURNISHED, x -> x.addContour(2, 0, 0, 1, 1)));
        test("one unit beyond each of the four edges", () -> refuses(ARGUMENT, FURNISHED,
                x -> x.addContour(2, -201, 0, 10, 10), x -> x.addContour(2, 0, -201, 10, 10),
                x -> x.addContour(2, 1191, 0, 10, 10), x -> x.addContour(2, 0, 1191, 10, 10)));
        test("at each of the four edges", () -> {
            answers(0, FURNISHED, x -> x.addContour(2, -200, -200, 10, 10));
            answers(0, FURNISHED, x -> x.addContour(2, 1190, 1190, 10, 10));
        });
        sentence("Throws `IllegalStateException` if the glyph has 3 contours");
        test("it has 2, and then 3", () -> {
            answers(2, TRIANGLE, x -> x.addContour(0, 1, 2, 3, 4));
            refuses(STATE, TWELVE, x -> x.addContour(0, 1, 2, 3, 4));
        });
        test("another glyph has 3", () -> answers(0, TWELVE.then(glyph('B')), x -> x.addContour(1, 1, 2, 3, 4)));
        test("after undo there is room", () ->
                answers(2, TWELVE.then(Designer::undo), x -> x.addContour(0, 1, 2, 3, 4)));
        test("after a text with one contour there is room", () ->
                answers(1, TWELVE.then(read("A(0,0 1,0 0,1)")), x -> x.addContour(0, 1, 2, 3, 4)));
    }

    // ---- promises 4 and 5 ----

    private void movePoint() {
        promise(4);
        sentence("Moves a point of a contour.");
        test("this one alone: the first and the twelfth one", () -> {
            for (int at : new int[] {0, 11}) {
                Calls moved = TWELVE.then(x -> x.movePoint(0, 0, at, 100, 200));
                for (int i = 0; i < 12; i++) {
                    int point = i;
                    int x = i == 10 ? 0 : i == 11 ? -3 : i;
                    int y = i >= 10 ? i - 9 : i;
                    answers(x + (i == at ? 100 : 0), moved, design -> design.point(0, 0, point, false));
                    answers(y + (i == at ? 200 : 0), moved, design -> design.point(0, 0, point, true));
                }
            }
        });
        test("of a later contour of a later glyph", () -> {
            Calls moved = FULL.then(x -> x.addContour(23, 5, 6, 7, 8)).then(x -> x.movePoint(23, 1, 3, -5, -6));
            answersEach(numbers(5, 6, 12, 6, 12, 14, 0, 8), moved, (x, i) -> x.point(23, 1, i / 2, i % 2 == 1));
            answers(0, moved, x -> x.point(23, 0, 3, false));
            answers(100, moved, x -> x.point(22, 0, 3, true));
        });
        sentence("Returns its x then.");
        test("x and not y, also if only y changes", () -> {
            answers(407, FURNISHED, x -> x.movePoint(0, 0, 1, 7, 9));
            answers(400, FURNISHED, x -> x.movePoint(0, 0, 1, 0, 9));
        });
        test("the greatest and the least x", () -> {
            answers(1200, FURNISHED, x -> x.movePoint(0, 0, 1, 800, 0));
            answers(-200, FURNISHED, x -> x.movePoint(0, 0, 1, -600, 0));
        });
        sentence("`dx`: what is added to its x, any int");
        test("from 0 at most -200 and 1200, and no int beyond", () ->
                takesOnly(-200, 1200, ARGUMENT, FURNISHED, (x, dx) -> x.movePoint(0, 0, 0, dx, 0)));
        test("from both ends of the range, also where the sum wraps around", () -> {
            takesOnly(0, 1400, ARGUMENT, TRIANGLE, (x, dx) -> x.movePoint(1, 0, 0, dx, 0));
            takesOnly(-1400, 0, ARGUMENT, TRIANGLE, (x, dx) -> x.movePoint(1, 0, 2, dx, 0));
        });
        sentence("`dy`: what is added to its y, any int");
        test("from 0 at most -200 and 1200, and no int beyond", () ->
                takesOnly(-200, 1200, ARGUMENT, FURNISHED, (x, dy) -> x.movePoint(0, 0, 0, 0, dy)));
        test("from both ends of the range, also where the sum wraps around", () -> {
            takesOnly(0, 1400, ARGUMENT, TRIANGLE, (x, dy) -> x.movePoint(1, 0, 0, 0, dy));
            takesOnly(-1400, 0, ARGUMENT, TRIANGLE, (x, dy) -> x.movePoint(1, 0, 2, 0, dy));
        });
    }

    private void refusedPoints() {
        promise(4);
        sentence("Throws `IndexOutOfBoundsException` if there is no such glyph, contour or point");
        test("a glyph beyond the last, -1, far ones, and 0 of none", () ->
                needsGlyph((x, glyph) -> x.movePoint(glyph, 0, 0, 1, 1)));
        test("contours 0 and 1 of two, and no other one", () ->
                takesOnly(0, 1, INDEX, FURNISHED, (x, contour) -> x.movePoint(0, contour, 0, 1, 1)));
        test("contours 0 to 2 of three, between glyphs with three, and no other one", () ->
                takesOnly(0, 2, INDEX, NEIGHBOURS, (x, contour) -> x.movePoint(1, contour, 3, 1, 1)));
        test("contour 0 of an empty glyph", () -> refuses(INDEX, FURNISHED, x -> x.movePoint(2, 0, 0, 1, 1)));
        test("points 0 to 2 of a triangle, and no other one", () ->
                takesOnly(0, 2, INDEX, TRIANGLE, (x, point) -> x.movePoint(0, 0, point, 1, 1)));
        test("points 0 to 3 of a box that comes after it, and no other one", () ->
                takesOnly(0, 3, INDEX, TRIANGLE, (x, point) -> x.movePoint(0, 1, point, 1, 1)));
        test("points 0 to 11 of twelve, and no other one", () ->
                takesOnly(0, 11, INDEX, TWELVE, (x, point) -> x.movePoint(0, 0, point, 4, 4)));
        sentence("Throws `IllegalArgumentException` if a coordinate would be out of range");
        test("x one beyond each end", () -> refuses(ARGUMENT, TRIANGLE,
                x -> x.movePoint(1, 0, 0, -1, 0), x -> x.movePoint(1, 0, 1, 1, 0)));
        test("y one beyond each end", () -> refuses(ARGUMENT, TRIANGLE,
                x -> x.movePoint(1, 0, 0, 0, -1), x -> x.movePoint(1, 0, 2, 0, 1)));
        test("one of them within the range, and the point stays", () -> refuses(ARGUMENT, TRIANGLE,
                x -> x.movePoint(1, 0, 0, 5, -1), x -> x.movePoint(1, 0, 0, -1, 5)));
        test("both at an end", () -> {
            answers(1200, TRIANGLE, x -> x.movePoint(1, 0, 0, 1400, 1400));
            answers(-200, TRIANGLE, x -> x.movePoint(1, 0, 2, -1400, -1400));
        });
    }

    private void shift() {
        promise(5);
        sentence("Shifts all points of a glyph; its stems stay.");
        test("all points of all contours", () -> {
            Calls shifted = TWELVE.then(x -> x.shift(0, 100, -50));
            answersEach(numbers(100, -50, 101, -49), shifted, (x, i) -> x.point(0, 0, i / 2, i % 2 == 1));
            answersEach(numbers(97, -48), shifted, (x, i) -> x.point(0, 0, 11, i == 1));
            answersEach(numbers(110, 10), shifted, (x, i) -> x.point(0, 1, 3, i == 1));
            answersEach(numbers(500, 550), shifted, (x, i) -> x.point(0, 2, 2, i == 1));
        });
        test("the stems and another glyph stay", () -> {
            Calls shifted = FURNISHED.then(x -> x.shift(0, 9, 9));
            answersEach(numbers(10, 90, 300, 390), shifted, (x, i) -> x.stem(0, i / 2, i % 2 == 1));
            answersEach(numbers(20, 30), shifted, (x, i) -> x.point(1, 0, 0, i == 1));
        });
        test("the glyphs before and behind stay, also if all have three contours", () -> {
            Calls shifted = NEIGHBOURS.then(x -> x.shift(1, 7, 8));
            for (int i = 0; i < 9; i++) {
                int contour = i;
                answers(100 + 10 * i + (i / 3 == 1 ? 7 : 0), shifted, x -> x.point(contour / 3, contour % 3, 0, false));
                answers(200 + 10 * i + (i / 3 == 1 ? 8 : 0), shifted, x -> x.point(contour / 3, contour % 3, 0, true));
            }
        });
        test("points that a text has taken away do not count", () -> answers(6, FEWER, x -> x.shift(0, 1, 1180)));
        sentence("Returns the left edge then, 0 for an empty glyph.");
        test("the least x of all contours", () -> {
            answers(1, TWELVE, x -> x.shift(0, 4, 0));
            answers(795, FURNISHED.then(x -> x.shift(0, 300, 0)), x -> x.shift(0, 495, 0));
        });
        test("an edge of -200, and one of 0", () -> {
            answers(-200, FURNISHED, x -> x.shift(1, -220, 0));
            answers(0, FURNISHED, x -> x.shift(1, -20, 500));
        });
        test("an empty glyph", () -> answers(0, FURNISHED, x -> x.shift(2, 30, 40)));
        sentence("`dx`: what is added to each x, any int");
        test("as far as all points allow, and no int beyond", () ->
                takesOnly(-200, 795, ARGUMENT, FURNISHED, (x, dx) -> x.shift(0, dx, 0)));
        test("none at all from end to end", () ->
                takesOnly(0, 0, ARGUMENT, TRIANGLE, (x, dx) -> x.shift(1, dx, 0)));
        test("an empty glyph has no x that would be out of range", () -> {
            answers(0, FURNISHED, x -> x.shift(2, MAX, 0));
            answers(0, FURNISHED, x -> x.shift(2, MIN, 0));
        });
        sentence("`dy`: what is added to each y, any int");
        test("as far as all points allow, and no int beyond", () ->
                takesOnly(-200, 494, ARGUMENT, FURNISHED, (x, dy) -> x.shift(0, 0, dy)));
        test("none at all from end to end", () ->
                takesOnly(0, 0, ARGUMENT, TRIANGLE, (x, dy) -> x.shift(1, 0, dy)));
        test("an empty glyph has no y that would be out of range", () -> {
            answers(0, FURNISHED, x -> x.shift(2, 0, MAX));
            answers(0, FURNISHED, x -> x.shift(2, 0, MIN));
        });
    }

    private void refusedShifts() {
        promise(5);
        sentence("Throws `IndexOutOfBoundsException` if there is no such glyph");
        test("one beyond the last, -1, far ones, and 0 of none", () ->
                needsGlyph((x, glyph) -> x.shift(glyph, 1, 1)));
        sentence("Throws `IllegalArgumentException` if a coordinate would be out of range");
        test("of a point of the last contour, and no point is shifted", () -> {
            refuses(ARGUMENT, TWELVE, x -> x.shift(0, 801, 0), x -> x.shift(0, 0, 601));
            answers(797, TWELVE, x -> x.shift(0, 800, 600));
        });
        test("of a point of the first contour", () -> {
            refuses(ARGUMENT, TWELVE, x -> x.shift(0, -198, 0), x -> x.shift(0, 0, -201));
            answers(-200, TWELVE, x -> x.shift(0, -197, -200));
        });
        test("one of dx and dy is too much", () -> refuses(ARGUMENT, TRIANGLE,
                x -> x.shift(0, 1, 1200), x -> x.shift(0, 1200, 1), x -> x.shift(0, -300, 0),
                x -> x.shift(0, 0, -300)));
    }

    // ---- promises 6 to 10 ----

    private void glyph() {
        promise(6);
        sentence("Returns a number of a glyph.");
        test("an empty one has no edges, points, classes, stems and areas", () ->
                answersEach(numbers('C', 0, 0, 0, 0, 30, -1, -1, 0, 0), FURNISHED, (x, what) -> x.glyph(2, what)));
        sentence("`what`: 0 for its code, 1 for its contours, 2 for all of its points, 3 for its left and 4 for "
                + "its right edge, 5 for its advance, 6 for its first and 7 for its second class, -1 if it is in "
                + "none, 8 for its stems, 9 for twice the sum of the areas of all contours");
        test("each of them", () -> {
            Calls scene = glyphs(2).then(x -> {
                x.addContour(1, -20, 5, 100, 10);
                x.addContour(1, 40, 50, 100, 200);
                x.movePoint(1, 0, 1, 300, 0);
                x.setSide(1, 0, -200);
                x.setSide(1, 1, 7);
                x.setClass(1, true, 5);
                x.setClass(1, false, 2);
                x.addStem(1, 0, 10);
            });
            answersEach(numbers('B', 2, 8, -20, 380, 207, 5, 2, 1, 45000), scene, (x, what) -> x.glyph(1, what));
        });
        test("-1 if it is in a class of one sort alone, or was taken out", () -> {
            answersEach(numbers(2, -1), FURNISHED, (x, i) -> x.glyph(0, 6 + i));
            answersEach(numbers(-1, 3), FURNISHED, (x, i) -> x.glyph(1, 6 + i));
            answers(-1, FURNISHED.then(x -> x.setClass(0, true, -1)), x -> x.glyph(0, 6));
        });
        test("the least class is 0 and not none", () ->
                answers(0, FURNISHED.then(x -> x.setClass(0, true, 0)), x -> x.glyph(0, 6)));
        test("areas of both signs are summed up", () -> {
            answers(0, read("A(0,0 10,0 0,10)(0,0 0,10 10,0)"), x -> x.glyph(0, 9));
            answers(-50, read("A(0,0 10,0 0,5)(0,0 0,10 10,0)"), x -> x.glyph(0, 9));
        });
        test("the greatest sum of boxes, and 3 contours, 20 points, 4 stems", () -> {
            Calls boxes = glyphs(1).then(x -> {
                for (int i = 0; i < 3; i++) {
                    x.addContour(0, -200, -200, 1400, 1400);
                    x.addStem(0, 10 * i, 10 * i + 1);
                }
                x.addStem(0, 30, 31);
            });
            answers(3 * 2 * 1400 * 1400, boxes, x -> x.glyph(0, 9));
            answers(1500, boxes, x -> x.glyph(0, 5));
            answers(4, boxes, x -> x.glyph(0, 8));
            answers(3, TWELVE, x -> x.glyph(0, 1));
            answers(20, TWELVE, x -> x.glyph(0, 2));
        });
        test("of a glyph between others with three contours", () -> {
            answersEach(numbers('B', 3, 12, 130, 245), NEIGHBOURS, (x, what) -> x.glyph(1, what));
            answers(2 * (97 * 53 + 96 * 54 + 95 * 55), NEIGHBOURS, x -> x.glyph(1, 9));
            answers(0, NEIGHBOURS.then(glyph('D')), x -> x.glyph(3, 9));
        });
        sentence("Returns the number.");
        test("of the last of 24 glyphs", () ->
                answersEach(numbers('X', 1, 4, 0, 100, 200, -1, -1, 1, 20000), FULL, (x, what) -> x.glyph(23, what)));
        sentence("Throws `IndexOutOfBoundsException` if there is no such glyph");
        test("one beyond the last, -1, far ones, and 0 of none", () -> needsGlyph((x, glyph) -> x.glyph(glyph, 9)));
        sentence("Throws `IllegalArgumentException` if what is not from 0 to 9");
        test("0 and 9 are taken; -1, 10 and all beyond are not", () ->
                takesOnly(0, 9, ARGUMENT, FURNISHED, (x, what) -> x.glyph(0, what)));
    }

    private void find() {
        promise(7);
        sentence("Returns the glyph with a code.");
        test("with the least and the greatest code", () -> {
            answers(1, glyph(126).then(glyph(33)), x -> x.find(33));
            answers(0, glyph(126).then(glyph(33)), x -> x.find(126));
        });
        sentence("`code`: the code, any int");
        test("the codes of the glyphs, and no int beyond", () ->
                takesOnly('A', 'X', MISSING, FULL, (x, code) -> x.find(code)));
        test("neither 0 nor another int that is no code", () -> refuses(MISSING, FURNISHED, x -> x.find(0),
                x -> x.find(32), x -> x.find(127), x -> x.find(-'A'), x -> x.find(MIN), x -> x.find(MAX)));
        sentence("Returns the glyph.");
        test("the first, the second and the 24th", () -> {
            answers(0, FULL, x -> x.find('A'));
            answers(1, FULL, x -> x.find('B'));
            answers(23, FULL, x -> x.find('X'));
        });
        sentence("Throws `NoSuchElementException` if there is none");
        test("without glyphs", () -> refuses(MISSING, NEW, x -> x.find('A'), x -> x.find(0)));
        test("beside the codes of all glyphs", () -> refuses(MISSING, FURNISHED, x -> x.find('@'), x -> x.find('D')));
        test("after the glyph was undone", () ->
                refuses(MISSING, glyphs(2).then(Designer::undo), x -> x.find('B')));
    }

    private void points() {
        promise(8);
        sentence("Returns the number of points of a contour.");
        test("at least 3 and at most 12", () -> {
            answers(3, TRIANGLE, x -> x.points(0, 0));
            answers(12, TWELVE, x -> x.points(0, 0));
        });
        sentence("Returns the number.");
        test("4 for a box after another contour", () -> {
            answers(4, TRIANGLE, x -> x.points(0, 1));
            answers(4, TWELVE, x -> x.points(0, 2));
        });
        sentence("Throws `IndexOutOfBoundsException` if there is no such glyph or contour");
        test("a glyph beyond the last, -1, far ones, and 0 of none", () ->
                needsGlyph((x, glyph) -> x.points(glyph, 0)));
        test("contours 0 and 1 of two, 0 to 2 of three, and no other one", () -> {
            takesOnly(0, 1, INDEX, FURNISHED, (x, contour) -> x.points(0, contour));
            takesOnly(0, 2, INDEX, NEIGHBOURS, (x, contour) -> x.points(1, contour));
        });
        test("contour 0 of an empty glyph", () -> refuses(INDEX, FURNISHED, x -> x.points(2, 0)));
        test("a contour that a text has taken away", () ->
                refuses(INDEX, TWELVE.then(read("A(0,0 1,0 0,1)")), x -> x.points(0, 1)));
    }

    private void point() {
        promise(9);
        sentence("Returns a coordinate of a point.");
        test("the least and the greatest ones", () ->
                answersEach(numbers(-200, -200, 1200, -200, 1200, 1200, -200, 1200), TRIANGLE,
                        (x, i) -> x.point(1, 0, i / 2, i % 2 == 1)));
        sentence("`isY`: whether y is asked for, and not x");
        test("both", () -> {
            answers(50, TRIANGLE, x -> x.point(0, 0, 2, false));
            answers(90, TRIANGLE, x -> x.point(0, 0, 2, true));
        });
        sentence("Returns the coordinate.");
        test("of the twelfth point, and of the last contour", () -> {
            answersEach(numbers(-3, 2), TWELVE, (x, i) -> x.point(0, 0, 11, i == 1));
            answersEach(numbers(100, 600), TWELVE, (x, i) -> x.point(0, 2, 3, i == 1));
        });
        sentence("Throws `IndexOutOfBoundsException` if there is no such glyph, contour or point");
        test("a glyph beyond the last, -1, far ones, and 0 of none", () ->
                needsGlyph((x, glyph) -> x.point(glyph, 0, 0, true)));
        test("contours 0 and 1 of two, and no other one", () ->
                takesOnly(0, 1, INDEX, FURNISHED, (x, contour) -> x.point(0, contour, 0, true)));
        test("contours 0 to 2 of three, between glyphs with three, and no other one", () ->
                takesOnly(0, 2, INDEX, NEIGHBOURS, (x, contour) -> x.point(1, contour, 3, false)));
        test("contour 0 of an empty glyph", () -> refuses(INDEX, FURNISHED, x -> x.point(2, 0, 0, false)));
        test("points 0 to 2 of a triangle, 0 to 3 of a box, 0 to 11 of twelve, and no other one", () -> {
            takesOnly(0, 2, INDEX, TRIANGLE, (x, point) -> x.point(0, 0, point, false));
            takesOnly(0, 3, INDEX, TRIANGLE, (x, point) -> x.point(0, 1, point, true));
            takesOnly(0, 11, INDEX, TWELVE, (x, point) -> x.point(0, 0, point, false));
        });
        test("a point that a text has taken away", () ->
                refuses(INDEX, TWELVE.then(read("A(0,0 1,0 0,1)")), x -> x.point(0, 0, 3, false)));
    }

    private void area() {
        promise(10);
        sentence("Returns twice the area of a contour.");
        test("of a triangle, whose area need not be whole", () ->
                answers(1, read("A(0,0 1,0 0,1)"), x -> x.area(0, 0)));
        test("of this contour alone", () -> {
            answers(9000, TRIANGLE, x -> x.area(0, 0));
            answers(2 * 7 * 8, TRIANGLE, x -> x.area(0, 1));
        });
        sentence("Returns twice the area.");
        test("the greatest box, an area below 0, and one of 0", () -> {
            answers(2 * 1400 * 1400, TRIANGLE, x -> x.area(1, 0));
            answers(-2000000, read("A(0,0 0,1000 1000,1000 1000,0)"), x -> x.area(0, 0));
            answers(0, read("A(0,0 1000,1000 0,0)"), x -> x.area(0, 0));
        });
        sentence("Throws `IndexOutOfBoundsException` if there is no such glyph or contour");
        test("a glyph beyond the last, -1, far ones, and 0 of none", () -> needsGlyph((x, glyph) -> x.area(glyph, 0)));
        test("contours 0 and 1 of two, 0 to 2 of three, and no other one", () -> {
            takesOnly(0, 1, INDEX, FURNISHED, (x, contour) -> x.area(0, contour));
            takesOnly(0, 2, INDEX, NEIGHBOURS, (x, contour) -> x.area(1, contour));
        });
        test("contour 0 of an empty glyph", () -> refuses(INDEX, FURNISHED, x -> x.area(2, 0)));
    }
}
