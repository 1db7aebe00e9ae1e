/** The sentences on accounts and texts: promises 35 to 38. */
final class AccountSentences extends Sentences {
    private static final String TWELVE_POINTS = "A(0,0 1,1 2,2 3,3 4,4 5,5 6,6 7,7 8,8 9,9 0,1 0,2)";
    private static final String THIRTEEN_POINTS = "A(0,0 1,1 2,2 3,3 4,4 5,5 6,6 7,7 8,8 9,9 0,1 0,2 0,3)";
    private static final String THREE_CONTOURS = "A(0,0 1,1 2,2)(3,3 4,4 5,5)(6,6 7,7 8,9)";
    private static final String FOUR_CONTOURS = "A(0,0 1,1 2,2)(0,0 1,1 2,2)(0,0 1,1 2,2)(0,0 1,1 2,2)";
    /** 60 characters, without a fault. */
    private static final String LONGEST = "A(-200,-200 1200,1200 -200,1200)(-200,-200 1200,1200 0,1200)";

    AccountSentences(Checks checks, Quotes quotes) {
        super(checks, quotes);
    }

    /** Each text has this fault position, -1 for none; with a fault, it is refused. */
    private void faultsAre(Object... textsAndPositions) {
        for (int i = 0; i + 1 < textsAndPositions.length; i += 2) {
            String text = (String) textsAndPositions[i];
            Calls typed = typed(text);
            String due = text + ": " + textsAndPositions[i + 1];
            same(due, text + ": " + Calls.outcome(typed.thenTry(Designer::readGlyph).made(), Designer::faultPosition));
            if (!textsAndPositions[i + 1].equals(-1)) {
                throwsThis(ARGUMENT, typed, Designer::readGlyph);
            }
        }
    }

    @Override
    void testAll() {
        descriptionOfTexts();
        descriptionOfPoints();
        descriptionOfNoFaults();
        descriptionOfFaultPositions();
        meanAdvance();
        account();
        contentOfAccounts();
        readGlyph();
        allElseStays();
        refusedTexts();
        textsThatDoNotFit();
        faultPosition();
    }

    // ---- the description ----

    private void descriptionOfTexts() {
        description("Texts");
        sentence("A text of a glyph consists of a character with a code from 33 to 126, and one or more contours, "
                + "each of which is \"(\", a point, two or more times a space and a point, and \")\".");
        test("codes of 33 and 126, and none beyond", () -> {
            faultsAre("!(0,0 1,1 2,0)", -1, "~(0,0 1,1 2,0)", -1, " (0,0 1,1 2,0)", 0, "\u007f(0,0 1,1 2,0)", 0,
                    "\0(0,0 1,1 2,0)", 0, "\u0141(0,0 1,1 2,0)", 0, "\uffff(0,0 1,1 2,0)", 0);
        });
        test("a code that is a sign of the text, too", () ->
                faultsAre("((0,0 1,1 2,0)", -1, ")(0,0 1,1 2,0)", -1, "0(0,0 1,1 2,0)", -1, ",(0,0 1,1 2,0)", -1));
        test("no, one, two and three contours", () ->
                faultsAre("A", 1, "A(0,0 1,1 2,2)", -1, "A(0,0 1,1 2,2)(0,0 1,1 2,2)", -1, THREE_CONTOURS, -1));
        test("one, two and three points in the first contour and in a later one", () -> {
            faultsAre("A(0,0)", 5, "A(0,0 1,1)", 9, "A(0,0 1,1 2,2)", -1);
            faultsAre("A(0,0 1,1 2,2)(0,0)", 18, "A(0,0 1,1 2,2)(0,0 1,1)", 22, "A(0,0 1,1 2,2)(0,0 1,1 2,2)", -1);
        });
        test("no point at all, and a contour that is not opened", () ->
                faultsAre("A()", 2, "A0,0 1,1 2,2)", 1, "A(0,0 1,1 2,2)0,0 1,1 2,2)", 14));
        test("two spaces, a space at an end, another sign instead of one", () ->
                faultsAre("A( 0,0 1,1 2,2)", 2, "A(0,0  1,1 2,2)", 6, "A(0,0 1,1 2,2 )", 14, "A(0,0 1,1 2,2) ", 14,
                        "A (0,0 1,1 2,2)", 1, "A(0,0 1,1 2,2) (0,0 1,1 2,2)", 14, "A(0,0\t1,1 2,2)", 5,
                        "A(0,0,1,1 2,2)", 5, "A(0,0(1,1 2,2)", 5));
        test("a text behind the text", () -> faultsAre("A(0,0 1,1 2,2)A(0,0 1,1 2,2)", 14, "A(0,0 1,1 2,2))", 14));
        test("60 characters", () -> faultsAre(LONGEST, -1));
    }

    private void descriptionOfPoints() {
        description("Texts");
        sentence("A point is its x, \",\" and its y; a coordinate is a number with 1 to 4 digits that does not "
                + "begin with 0, except for 0 itself, possibly with \"-\" before it, also before 0.");
        test("no digit, 1, 4 and 5 digits of an x", () -> faultsAre("A(,0 1,1 2,2)", 2, "A(7,0 1,1 2,2)", -1,
                "A(1000,0 1,1 2,2)", -1, "A(1234,0 1,1 2,2)", -1, "A(12345,0 1,1 2,2)", 6, "A(10000,0 1,1 2,2)", 6));
        test("no digit, 1, 4 and 5 digits of a y", () -> faultsAre("A(0, 1,1 2,2)", 4, "A(0,7 1,1 2,2)", -1,
                "A(0,1000 1,1 2,2)", -1, "A(0,12345 1,1 2,2)", 8, "A(0,0 1,1 2,)", 12, "A(0,0 1,1 2,12345)", 16));
        test("no digit, 1, 4 and 5 digits behind a minus", () -> faultsAre("A(-,0 1,1 2,2)", 3, "A(-7,0 1,1 2,2)", -1,
                "A(-1000,0 1,1 2,2)", -1, "A(-12345,0 1,1 2,2)", 7, "A(0,- 1,1 2,2)", 5, "A(0,-1000 1,1 2,2)", -1));
        test("0 itself, with a minus, too, and 0 before another digit", () -> faultsAre("A(0,0 1,1 2,2)", -1,
                "A(-0,-0 1,1 2,2)", -1, "A(00,0 1,1 2,2)", 3, "A(01,0 1,1 2,2)", 3, "A(-00,0 1,1 2,2)", 4,
                "A(-01,0 1,1 2,2)", 4, "A(0,00 1,1 2,2)", 5, "A(0,-09 1,1 2,2)", 6));
        test("0 behind another digit", () -> faultsAre("A(10,20 30,100 2,2)", -1));
        test("the digits 0 and 9, and the signs beside them", () ->
                faultsAre("A(9,90 1,1 2,2)", -1, "A(/,0 1,1 2,2)", 2, "A(:,0 1,1 2,2)", 2, "A(1/,0 1,1 2,2)", 3,
                        "A(1:,0 1,1 2,2)", 3, "A(a,0 1,1 2,2)", 2, "A(\u0130,0 1,1 2,2)", 2));
        test("two minuses, one behind a digit, and a plus", () -> faultsAre("A(--1,0 1,1 2,2)", 3,
                "A(1-,0 1,1 2,2)", 3, "A(+1,0 1,1 2,2)", 2, "A(0,--1 1,1 2,2)", 5));
        test("no comma, and two", () -> faultsAre("A(0 0 1,1 2,2)", 3, "A(0) 1,1 2,2)", 3, "A(0,,0 1,1 2,2)", 4,
                "A(0,0, 1,1 2,2)", 5, "A(0;0 1,1 2,2)", 3, "A(1000 0 1,1 2,2)", 6));
    }

    private void descriptionOfNoFaults() {
        description("Texts");
        sentence("A coordinate out of range and a 13th point or 4th contour are no faults of the text.");
        test("coordinates of 1201, -201, 9999 and -9999", () -> {
            faultsAre("A(1201,0 1,1 2,2)", -1, "A(-201,0 1,1 2,2)", -1);
            faultsAre("A(0,1201 1,1 2,2)", -1, "A(0,-201 1,1 2,2)", -1);
            faultsAre("A(9999,0 1,1 2,2)", -1, "A(0,0 1,1 2,-9999)", -1);
        });
        test("13 points and 4 contours", () -> faultsAre(THIRTEEN_POINTS, -1, FOUR_CONTOURS, -1));
        test("but what comes behind them can be one", () -> faultsAre("A(9999,0 1,1 2,2", 16,
                THIRTEEN_POINTS + ")", 54, FOUR_CONTOURS + ")", 53, FOUR_CONTOURS + "(0", 55));
    }

    private void descriptionOfFaultPositions() {
        description("Texts");
        sentence("The fault position of a text is the index of its first character that cannot continue such a "
                + "text, or the length of the text if it ends too early.");
        test("an empty text", () -> faultsAre("", 0));
        test("a text that ends too early after each of its characters", () -> {
            String text = "A(-0,10 -1200,0 3,-4)(5,6 7,8 9,0)";
            for (int end = 0; end < text.length(); end++) {
                faultsAre(text.substring(0, end), end == 21 ? -1 : end);
            }
            faultsAre(text, -1);
        });
        test("a wrong character after each of its characters", () -> {
            String text = "A(-0,10 -1200,0 3,-4)(5,6 7,8 9,0)";
            for (int end = 0; end <= text.length(); end++) {
                faultsAre(text.substring(0, end) + "\t", end);
            }
        });
        test("the first of several faults", () -> faultsAre("A(00,00", 3, " ((", 0, "A(0,0 1,1)(", 9));
        test("the last of 60 characters, and behind it", () -> {
            String most = LONGEST.substring(0, 59);
            faultsAre(most, 59, most + "(", 59, most + " ", 60, FOUR_CONTOURS + "(0,0 1,", 60);
        });
    }

    // ---- promises 35 and 36 ----

    private void meanAdvance() {
        promise(35);
        sentence("Returns the mean advance of all glyphs.");
        test("of one glyph, and of 24", () -> {
            same(100.0, glyphs(1).made().meanAdvance());
            same(200.0, FULL.made().meanAdvance());
        });
        sentence("Returns the sum of their advances divided by their number, both as doubles.");
        test("a mean that is not whole", () -> {
            same(500.0 / 3.0, glyphs(3).then(x -> x.addContour(2, 0, 0, 200, 1)).made().meanAdvance());
            same(100.5, glyphs(2).then(x -> x.setSide(0, 0, 51)).made().meanAdvance());
        });
        test("one below 0, one between -1 and 0, and one of 0", () -> {
            Calls low = glyphs(3).then(x -> x.setSide(0, 0, -200)).then(x -> x.setSide(1, 0, -100));
            same(-100.0 / 3.0, low.made().meanAdvance());
            same(-1.0 / 3.0, low.then(x -> x.setSide(2, 0, 149)).made().meanAdvance());
            same(0.0, low.then(x -> x.setSide(2, 0, 150)).made().meanAdvance());
        });
        sentence("Throws `ArithmeticException` if there is no glyph");
        test("none was added, or none is left", () -> {
            refuses(ARITHMETIC, NEW, x -> (long) x.meanAdvance());
            refuses(ARITHMETIC, glyphs(1).then(Designer::undo), x -> (long) x.meanAdvance());
        });
    }

    private void account() {
        promise(36);
        sentence("Returns an account.");
        test("all of them of a new object and of a furnished one", () -> {
            answersEach(new long[9], NEW, (x, what) -> x.account(what));
            answersEach(numbers(3, 3, 12, 1, 1, 2, 2, 3, 515 + 420 + 30), FURNISHED, (x, what) -> x.account(what));
        });
        sentence("Returns the number.");
        test("the greatest ones", () -> {
            Calls most = FULL.then(x -> {
                for (int i = 0; i < 48; i++) {
                    x.addContour(i / 2, 0, 0, 1, 1);
                }
                for (int i = 0; i < 72; i++) {
                    x.addStem(i / 3, 30 + 10 * (i % 3), 35 + 10 * (i % 3));
                }
                for (int i = 0; i < 40; i++) {
                    x.kernPair(i / 24, i % 24, 1);
                }
                for (int i = 0; i < 36; i++) {
                    x.kernClasses(i / 6, i % 6, 1);
                }
                for (int i = 1; i < 48; i++) {
                    x.follow(i / 2, i % 2, 0, 0, 0);
                }
            });
            answersEach(numbers(24, 72, 288, 47, 36, 40, 40, 96, 24 * 200), most, (x, what) -> x.account(what));
        });
        sentence("Throws `IllegalArgumentException` if what is not from 0 to 8");
        test("0 and 8 are taken; -1, 9 and all beyond are not", () ->
                takesOnly(0, 8, ARGUMENT, FURNISHED, (x, what) -> x.account(what)));
    }

    private void contentOfAccounts() {
        promise(36);
        sentence("`what`: 0 for the glyphs, 1 for the contours, 2 for the points, 3 for the sidebearings that "
                + "follow rules, 4 for the kerns for classes, 5 for those for glyphs, 6 for the ordered pairs of "
                + "glyphs, also of a glyph with itself, whose kern is not 0, 7 for the stems, 8 for the sum of all "
                + "advances");
        test("contours and points that a text has replaced do not count", () -> {
            Calls scene = FURNISHED.then(Designer::takeProof).then(read("A(0,0 1,1 2,0)"));
            answersEach(numbers(3, 2, 7), scene, (x, what) -> x.account(what));
        });
        test("rules that ended do not count, and both sides of a glyph do", () -> {
            answers(0, FURNISHED.then(x -> x.setSide(1, 0, 1)), x -> x.account(3));
            Calls both = FURNISHED.then(x -> x.follow(2, 0, 2, 1, 0)).then(x -> x.follow(0, 1, 0, 0, 0));
            answers(3, both, x -> x.account(3));
            Calls ends = glyphs(24).then(x -> x.follow(0, 0, 5, 0, 0)).then(x -> x.follow(23, 1, 5, 0, 0));
            answers(2, ends, x -> x.account(3));
        });
        test("kerns of 0 count as kerns, and not as pairs whose kern is not 0", () -> {
            Calls zero = glyphs(2).then(x -> x.kernPair(0, 0, 0)).then(x -> x.kernClasses(0, 0, 0));
            answersEach(numbers(1, 1, 0), zero, (x, i) -> x.account(4 + i));
        });
        test("a glyph with itself, and both orders, are pairs", () -> {
            answers(1, glyphs(1).then(x -> x.kernPair(0, 0, 3)), x -> x.account(6));
            answers(2, glyphs(2).then(x -> x.kernPair(0, 1, 3)).then(x -> x.kernPair(1, 0, -3)), x -> x.account(6));
        });
        test("kerns of classes count for each pair of glyphs in them, but for one with a kern of 0 of its own", () -> {
            Calls classed = glyphs(24).then(x -> {
                for (int i = 0; i < 24; i++) {
                    x.setClass(i, true, 5);
                    x.setClass(i, false, 0);
                }
                x.kernClasses(5, 0, -1);
            });
            answers(24 * 24, classed, x -> x.account(6));
            answers(24 * 24 - 1, classed.then(x -> x.kernPair(23, 23, 0)), x -> x.account(6));
            answers(1, classed, x -> x.account(4));
        });
        test("class 0 for no more glyphs than there are", () -> {
            Calls zero = glyphs(3).then(x -> {
                x.setClass(0, true, 0);
                x.setClass(2, false, 0);
                x.kernClasses(0, 0, 9);
            });
            answers(1, zero, x -> x.account(6));
            Calls second = glyphs(24).then(x -> x.setClass(5, false, 0)).then(x -> x.kernClasses(0, 0, 9));
            answers(0, second, x -> x.account(6));
            Calls first = glyphs(24).then(x -> x.setClass(5, true, 0)).then(x -> x.kernClasses(0, 0, 9));
            answers(0, first, x -> x.account(6));
        });
        test("the sum of advances can be below 0", () ->
                answers(-50, glyphs(1).then(x -> x.setSide(0, 0, -100)), x -> x.account(8)));
        test("stems of all glyphs", () -> {
            answers(24, FULL, x -> x.account(7));
            answers(2, FURNISHED.then(x -> x.removeStem(0, 1)), x -> x.account(7));
        });
    }

    // ---- promise 37 ----

    private void readGlyph() {
        promise(37);
        sentence("Reads the text buffer as a text of a glyph: the glyph with this code, which is added if there is "
                + "none, gets these contours in place of its own; all else of it stays.");
        test("added if there is none, with all else at its beginning", () -> {
            Calls scene = FURNISHED.then(Designer::takeProof).then(read("z(1,2 3,4 5,7)"));
            answersEach(numbers('z', 1, 3, 1, 5, 104, -1, -1, 0, 2), scene, (x, what) -> x.glyph(3, what));
            answersEach(numbers(50, -1, -1, 0), scene, (x, what) -> x.side(3, 1, what));
            answersEach(numbers(1, 2, 3, 4, 5, 7), scene, (x, i) -> x.point(3, 0, i / 2, i % 2 == 1));
        });
        test("the 24th is added", () -> answers(23, glyphs(23).then(typed("z(1,2 3,4 5,7)")), Designer::readGlyph));
        test("an empty glyph gets contours", () -> answersEach(numbers('A', 3, 9), glyphs(1).then(read(THREE_CONTOURS)),
                (x, what) -> x.glyph(0, what)));
        test("fewer contours and points than before, and more", () -> {
            Calls fewer = read(THREE_CONTOURS).then(read("A(1,2 3,4 5,7)"));
            answersEach(numbers('A', 1, 3), fewer, (x, what) -> x.glyph(0, what));
            answersEach(numbers('A', 3, 9), fewer.then(read(THREE_CONTOURS)), (x, what) -> x.glyph(0, what));
            answersEach(numbers(1, 2, 3, 4, 5, 7), fewer, (x, i) -> x.point(0, 0, i / 2, i % 2 == 1));
            answersEach(numbers('A', 1, 12), fewer.then(read(TWELVE_POINTS)), (x, what) -> x.glyph(0, what));
            Calls fewest = read(TWELVE_POINTS).then(read("A(1,2 3,4 5,7)"));
            answersEach(numbers('A', 1, 3), fewest, (x, what) -> x.glyph(0, what));
        });
        test("coordinates of -200, -0, 0 and 1200", () ->
                answersEach(numbers(-200, -200, 1200, 0, 0, 1200), read("A(-200,-200 1200,-0 0,1200)"),
                        (x, i) -> x.point(0, 0, i / 2, i % 2 == 1)));
        test("12 points and 3 contours, which are the most", () -> {
            answersEach(numbers(9, 9, 0, 1, 0, 2), read(TWELVE_POINTS), (x, i) -> x.point(0, 0, 9 + i / 2, i % 2 == 1));
            answersEach(numbers(3, 3, 3), read(THREE_CONTOURS), (x, contour) -> x.points(0, contour));
            answersEach(numbers(6, 6, 7, 7, 8, 9), read(THREE_CONTOURS), (x, i) -> x.point(0, 2, i / 2, i % 2 == 1));
        });
        test("a text of 60 characters", () ->
                answersEach(numbers(0, 1200), read(LONGEST), (x, i) -> x.point(0, 1, 2, i == 1)));
        sentence("Returns the number of the glyph.");
        test("of a known one: the first and the last of 24", () -> {
            answers(0, FULL.then(typed("A(1,2 3,4 5,7)")), Designer::readGlyph);
            answers(23, FULL.then(typed("X(1,2 3,4 5,7)")), Designer::readGlyph);
        });
        test("of a new one: 0 and 23", () -> {
            answers(0, typed("z(1,2 3,4 5,7)"), Designer::readGlyph);
            answers(23, glyphs(23).then(typed("z(1,2 3,4 5,7)")), Designer::readGlyph);
        });
    }

    private void allElseStays() {
        promise(37);
        sentence("Reads the text buffer as a text of a glyph: the glyph with this code, which is added if there is "
                + "none, gets these contours in place of its own; all else of it stays.");
        test("its code, classes, stems, sidebearings, rules and kerns, and the other glyphs", () -> {
            Calls scene = FURNISHED.then(Designer::takeProof);
            Calls changed = scene.then(read("B(20,30 320,30 320,630 20,630)")).then(read("A(1,2 3,4 5,7)"))
                    .then(x -> {
                        x.undo();
                        x.addContour(0, 0, 0, 1, 1);
                        x.undo();
                    });
            same(State.ofDesign(scene), State.ofDesign(changed));
        });
        test("each of them of this glyph", () -> {
            Calls read = FURNISHED.then(Designer::takeProof).then(read("A(1,2 3,4 5,7)")).then(read("B(0,0 9,0 0,9)"));
            answersEach(numbers('A', 1, 3, 1, 5, 60 + 50 + 4, 2, -1, 2), read, (x, what) -> x.glyph(0, what));
            answersEach(numbers(70, 0, 0, 1), read, (x, what) -> x.side(1, 0, what));
            answersEach(numbers(10, 90, 300, 390), read, (x, i) -> x.stem(0, i / 2, i % 2 == 1));
            answers(-40, read, x -> x.kern(0, 1));
            answers(3, read, x -> x.glyph(1, 7));
        });
        sentence("The buffer is emptied, also if an exception is thrown.");
        test("after a success", () -> answers(0, read("A(1,2 3,4 5,7)"), Designer::takeProof));
        test("after a fault", () -> answers(0, FURNISHED.thenTry(Designer::readGlyph), Designer::takeProof));
        test("after a text that does not fit", () -> {
            for (String text : new String[] {"A(1201,0 1,1 2,2)", THIRTEEN_POINTS, FOUR_CONTOURS}) {
                answers(0, typed(text).thenTry(Designer::readGlyph), Designer::takeProof);
            }
            answers(0, FULL.then(typed("z(1,2 3,4 5,7)")).thenTry(Designer::readGlyph), Designer::takeProof);
        });
        test("an empty one stays empty", () -> answers(0, NEW.thenTry(Designer::readGlyph), Designer::takeProof));
    }

    /** The text is refused, and all but the buffer and the fault position stays. */
    private void refusesText(Class<? extends RuntimeException> due, Calls scene, String... texts) {
        for (String text : texts) {
            Calls typed = scene.then(typed(text));
            throwsThis(due, typed, Designer::readGlyph);
            same(State.withoutFault(scene), State.withoutFault(typed.thenTry(Designer::readGlyph)));
        }
    }

    private void refusedTexts() {
        promise(37);
        Calls scene = FURNISHED.then(proof("AB A"));
        sentence("Throws `IllegalArgumentException` if the text has a fault");
        test("it is empty", () -> refusesText(ARGUMENT, scene, ""));
        test("it ends too early, after contours that have none", () ->
                refusesText(ARGUMENT, scene, "A", "A(0,0 1,1 2,2", "A(0,0 1,1 2,2)(", "A(0,0 1,1 2,2)(0,0 1,1 2,2"));
        test("it begins or ends with a wrong character", () ->
                refusesText(ARGUMENT, scene, " (0,0 1,1 2,2)", "A(0,0 1,1 2,2) ", "A(0,0 1,1 2,2))"));
        test("a contour has two points", () -> refusesText(ARGUMENT, scene, "A(0,0 1,1)", "z(0,0 1,1 2,2)(0,0 1,1)"));
        test("of a glyph that is not there, and none is added", () -> refusesText(ARGUMENT, scene, "z(0,0 1,1 2,2"));
        test("of a design without glyphs", () -> refusesText(ARGUMENT, NEW, "", "A(0,0 1,1 2,2"));
    }

    private void textsThatDoNotFit() {
        promise(37);
        Calls scene = FURNISHED.then(proof("AB A"));
        sentence("Throws `IllegalStateException` if a coordinate is out of range, there are too many points or "
                + "contours, or 24 glyphs are kept and none has this code");
        test("an x of 1201 and -201, of the first and of the last point", () -> refusesText(STATE, scene,
                "A(1201,0 1,1 2,2)", "A(-201,0 1,1 2,2)", "A(0,0 1,1 2,2)(0,0 1,1 1201,2)", "A(0,0 1,1 -201,2)"));
        test("a y of 1201 and -201, of the first and of the last point", () -> refusesText(STATE, scene,
                "A(0,1201 1,1 2,2)", "A(0,-201 1,1 2,2)", "A(0,0 1,1 2,2)(0,0 1,1 2,1201)", "A(0,0 1,1 2,-201)"));
        test("9999 and -9999", () -> refusesText(STATE, scene, "z(9999,0 1,1 2,2)", "z(0,0 1,1 2,-9999)"));
        test("1200 and -200 do fit", () -> answers(0, typed("A(1200,-200 -200,1200 0,0)"), Designer::readGlyph));
        test("13 points", () -> refusesText(STATE, scene, THIRTEEN_POINTS, "z" + THIRTEEN_POINTS.substring(1)));
        test("what comes after a text that did not fit, or had a fault, does fit", () -> {
            String[] refused = {"A(0,0 1,1 2,2 9999,3)", "A(0,0 1,1 2,2 3,-9999)", THIRTEEN_POINTS, FOUR_CONTOURS,
                "B(7,7 8,8 9999,9 "};
            for (String text : refused) {
                Calls fits = typed(text).thenTry(Designer::readGlyph).then(read("A(1,2 3,4 5,7)"));
                answersEach(numbers('A', 1, 3), fits, (x, what) -> x.glyph(0, what));
                answersEach(numbers(1, 2, 3, 4, 5, 7), fits, (x, i) -> x.point(0, 0, i / 2, i % 2 == 1));
            }
        });
        test("12 points do fit", () -> answers(0, typed(TWELVE_POINTS), Designer::readGlyph));
        test("4 contours", () -> refusesText(STATE, scene, FOUR_CONTOURS, "z" + FOUR_CONTOURS.substring(1)));
        test("3 contours do fit, though the glyph has 3 already", () ->
                answersInTurn(numbers(0), read(THREE_CONTOURS).then(typed(THREE_CONTOURS)), Designer::readGlyph));
        test("24 glyphs are kept and none has this code", () -> refusesText(STATE, FULL, "z(0,0 1,1 2,2)"));
        test("24 glyphs are kept and one has this code", () ->
                answers(23, FULL.then(typed("X(0,0 1,1 2,2)")), Designer::readGlyph));
        test("23 glyphs are kept", () -> answers(23, glyphs(23).then(typed("z(0,0 1,1 2,2)")), Designer::readGlyph));
    }

    // ---- promise 38 ----

    private void faultPosition() {
        promise(38);
        sentence("Returns the fault position of the text of the latest call of readGlyph.");
        Calls fault = typed("A(").thenTry(Designer::readGlyph);
        test("of the latest one of several", () -> {
            answers(2, fault, Designer::faultPosition);
            answers(3, fault.then(typed("B(0")).thenTry(Designer::readGlyph), Designer::faultPosition);
            answers(0, fault.thenTry(Designer::readGlyph), Designer::faultPosition);
        });
        test("asked twice, and after other calls on the buffer", () -> {
            answersInTurn(numbers(2, 2), fault, Designer::faultPosition);
            answers(2, fault.then(typed("A(0,0 1,1 2,2)")), Designer::faultPosition);
            answers(2, fault.then(typed("?")).thenTry(Designer::takeProof), Designer::faultPosition);
        });
        test("after undo, save and restore", () -> {
            answers(2, fault.then(x -> x.addGlyph('A')).then(Designer::undo), Designer::faultPosition);
            answers(2, fault.then(Designer::save).then(Designer::restore), Designer::faultPosition);
        });
        sentence("Returns the fault position, or -1 if the text had no fault or readGlyph has not been called.");
        test("-1 if readGlyph has not been called", () -> {
            answers(-1, NEW, Designer::faultPosition);
            answers(-1, typed("A("), Designer::faultPosition);
            answers(-1, typed("?").thenTry(Designer::takeProof), Designer::faultPosition);
        });
        test("-1 if the text had no fault, also after one that had", () -> {
            answers(-1, read("A(0,0 1,1 2,2)"), Designer::faultPosition);
            answers(-1, fault.then(read("A(0,0 1,1 2,2)")), Designer::faultPosition);
        });
        test("-1 if the text had no fault, though it did not fit", () -> {
            for (String text : new String[] {"A(1201,0 1,1 2,2)", THIRTEEN_POINTS, FOUR_CONTOURS}) {
                answers(-1, fault.then(typed(text)).thenTry(Designer::readGlyph), Designer::faultPosition);
            }
            Calls full = FULL.then(fault).then(typed("z(0,0 1,1 2,2)")).thenTry(Designer::readGlyph);
            answers(-1, full, Designer::faultPosition);
        });
        test("0 for an empty text, and 60 for one that ends too early there", () -> {
            answers(0, NEW.thenTry(Designer::readGlyph), Designer::faultPosition);
            answers(60, typed(FOUR_CONTOURS + "(0,0 1,").thenTry(Designer::readGlyph), Designer::faultPosition);
        });
    }
}
