/** The sentences on kerning: promises 15 to 20. */
final class KernSentences extends Sentences {
    /** 40 kerns for glyphs: 0 and all others, and some of the glyph after it. */
    private static final Calls FORTY = glyphs(24).then(x -> {
        for (int i = 0; i < 40; i++) {
            x.kernPair(i / 24, i % 24, i - 20);
        }
    });
    /** A kern for all classes. */
    private static final Calls ALL_CLASSES = glyphs(2).then(x -> {
        for (int i = 0; i < 36; i++) {
            x.kernClasses(i / 6, i % 6, i - 18);
        }
    });

    KernSentences(Checks checks, Quotes quotes) {
        super(checks, quotes);
    }

    private static Calls pair(int first, int second, int kern) {
        return x -> x.kernPair(first, second, kern);
    }

    private static Calls classes(int first, int second, int kern) {
        return x -> x.kernClasses(first, second, kern);
    }

    /** Puts a glyph into a first and a second class. */
    private static Calls into(int glyph, int first, int second) {
        return x -> {
            x.setClass(glyph, true, first);
            x.setClass(glyph, false, second);
        };
    }

    @Override
    void testAll() {
        descriptionOfClasses();
        descriptionOfKerns();
        setClass();
        kernClasses();
        kernPair();
        fullKerns();
        dropKern();
        anyIntOfDropKern();
        kern();
        why();
    }

    private void descriptionOfClasses() {
        description("Classes");
        sentence("There are 6 first classes, for glyphs that stand first in a pair, and 6 second classes, for "
                + "those that stand second, each numbered from 0.");
        test("first classes 0 to 5, and no other one", () ->
                takesOnly(0, 5, INDEX, FURNISHED, (x, first) -> x.kernClasses(first, 0, 1)));
        test("second classes 0 to 5, and no other one", () ->
                takesOnly(0, 5, INDEX, FURNISHED, (x, second) -> x.kernClasses(0, second, 1)));
        test("a first class counts for the first glyph, a second class for the second one", () -> {
            Calls scene = glyphs(2).then(into(0, 5, 0)).then(into(1, 0, 5)).then(classes(5, 5, 9));
            answers(9, scene, x -> x.kern(0, 1));
            answers(0, scene, x -> x.kern(1, 0));
            answers(0, scene, x -> x.kern(0, 0));
        });
        sentence("A glyph is in at most one first and at most one second class.");
        test("the class before does not count any more", () -> {
            Calls scene = glyphs(1).then(into(0, 1, 2)).then(classes(1, 2, 9)).then(into(0, 3, 2));
            answers(0, scene, x -> x.kern(0, 0));
            answers(9, scene.then(into(0, 1, 2)), x -> x.kern(0, 0));
        });
        test("in neither at first", () -> {
            answers(-1, glyphs(1), x -> x.glyph(0, 6));
            answers(-1, glyphs(1), x -> x.glyph(0, 7));
        });
    }

    private void descriptionOfKerns() {
        description("Classes");
        sentence("A kern from -300 to 300 can be told for each pair of a first and a second class, and for each "
                + "pair of glyphs; at most 40 of each sort.");
        test("-300 and 300, and no int beyond", () -> {
            takesOnly(-300, 300, ARGUMENT, FURNISHED, (x, kern) -> x.kernClasses(0, 0, kern));
            takesOnly(-300, 300, ARGUMENT, FURNISHED, (x, kern) -> x.kernPair(0, 0, kern));
        });
        test("all 36 of classes, for 40 is more than that", () -> answers(36, ALL_CLASSES, x -> x.account(4)));
        test("40 of glyphs, and no 41st one", () -> {
            answers(40, FORTY, x -> x.account(5));
            refuses(STATE, FORTY, x -> x.kernPair(23, 23, 1));
        });
        test("40 of glyphs leave all of the room for classes, and the other way round", () -> {
            answers(1, FORTY, x -> x.kernClasses(0, 0, 1));
            answers(1, ALL_CLASSES, x -> x.kernPair(0, 0, 1));
        });
        sentence("The kern of two glyphs is that told for them, if there is one; otherwise that told for the first "
                + "class of the first one and the second class of the second one; otherwise 0.");
        Calls both = glyphs(2).then(into(0, 0, -1)).then(into(1, -1, 0)).then(classes(0, 0, 9)).then(pair(0, 1, 5));
        test("one for them and one for the classes", () -> answers(5, both, x -> x.kern(0, 1)));
        test("one of 0 for them is told, too", () -> answers(0, both.then(pair(0, 1, 0)), x -> x.kern(0, 1)));
        test("none for them any more", () -> answers(9, both.then(x -> x.dropKern(true, 0, 1)), x -> x.kern(0, 1)));
        test("only one of the glyphs in a class", () -> {
            Calls one = both.then(x -> x.dropKern(true, 0, 1));
            answers(0, one.then(x -> x.setClass(0, true, -1)), x -> x.kern(0, 1));
            answers(0, one.then(x -> x.setClass(1, false, -1)), x -> x.kern(0, 1));
        });
        test("none of both", () -> answers(0, both, x -> x.kern(1, 0)));
    }

    // ---- promises 15 and 16 ----

    private void setClass() {
        promise(15);
        sentence("Puts a glyph into a class, in place of the one in which it is, or takes it out.");
        test("in place of another one", () -> answers(5, FURNISHED.then(into(0, 5, 0)), x -> x.glyph(0, 6)));
        test("out of it", () -> answers(-1, FURNISHED.then(into(0, -1, 0)), x -> x.glyph(0, 6)));
        test("out of none", () -> answers(-1, FURNISHED.then(into(2, -1, -1)), x -> x.glyph(2, 6)));
        test("this glyph alone, also the 24th one", () -> {
            answersEach(numbers(0, 0, 1), FURNISHED.then(into(2, 1, 1)).then(into(0, 0, 0)).then(into(1, 0, 0)),
                    (x, glyph) -> x.glyph(glyph, 6));
            answers(-1, FULL.then(into(23, 1, 1)), x -> x.glyph(22, 7));
        });
        sentence("`isFirst`: whether it is a first class");
        test("the class of the other sort stays", () -> {
            answers(2, FURNISHED.then(x -> x.setClass(0, false, 4)), x -> x.glyph(0, 6));
            answers(-1, FURNISHED.then(x -> x.setClass(0, true, 4)), x -> x.glyph(0, 7));
        });
        sentence("`which`: the class, 0 to 5, or -1 for none");
        test("-1 and 5, and no int beyond, of both sorts", () -> {
            takesOnly(-1, 5, ARGUMENT, FURNISHED, (x, which) -> x.setClass(1, true, which));
            takesOnly(-1, 5, ARGUMENT, FURNISHED, (x, which) -> x.setClass(1, false, which));
        });
        test("each of them", () ->
                answersEach(numbers(2, 0, 1, 2, 3, 4), FURNISHED, (x, which) -> x.setClass(0, true, which)));
        sentence("Returns the class before, or -1.");
        test("none before, of both sorts", () -> {
            answers(-1, FURNISHED, x -> x.setClass(1, true, 0));
            answers(-1, FURNISHED, x -> x.setClass(0, false, 0));
        });
        test("class 0 before, and class 5 before", () -> {
            answers(0, glyphs(1).then(into(0, 0, 5)), x -> x.setClass(0, true, -1));
            answers(5, glyphs(1).then(into(0, 0, 5)), x -> x.setClass(0, false, 5));
        });
        test("none after it was taken out", () ->
                answersInTurn(numbers(2, -1), FURNISHED, x -> x.setClass(0, true, -1)));
        sentence("Throws `IndexOutOfBoundsException` if there is no such glyph");
        test("one beyond the last, -1, far ones, and 0 of none", () ->
                needsGlyph((x, glyph) -> x.setClass(glyph, true, 0)));
        sentence("Throws `IllegalArgumentException` if which is not from -1 to 5");
        test("-2, 6 and all beyond", () ->
                takesOnly(-1, 5, ARGUMENT, FURNISHED, (x, which) -> x.setClass(0, true, which)));
    }

    private void kernClasses() {
        promise(16);
        sentence("Tells a kern for two classes, in place of one that was told for them.");
        test("in place of one", () -> answers(7, FURNISHED.then(classes(2, 3, 7)), x -> x.dropKern(false, 2, 3)));
        test("those beside it, and that the other way round, stay", () -> {
            Calls scene = ALL_CLASSES.then(classes(2, 3, 100));
            answers(-4, scene, x -> x.dropKern(false, 2, 2));
            answers(-2, scene, x -> x.dropKern(false, 2, 4));
            answers(-9, scene, x -> x.dropKern(false, 1, 3));
            answers(2, scene, x -> x.dropKern(false, 3, 2));
        });
        test("without glyphs", () -> answers(1, NEW, x -> x.kernClasses(5, 5, 1)));
        sentence("`first`: the first class, 0 to 5");
        test("0 and 5, and no int beyond", () ->
                takesOnly(0, 5, INDEX, FURNISHED, (x, first) -> x.kernClasses(first, 3, 1)));
        sentence("`second`: the second class, 0 to 5");
        test("0 and 5, and no int beyond", () ->
                takesOnly(0, 5, INDEX, FURNISHED, (x, second) -> x.kernClasses(2, second, 1)));
        sentence("Returns the number of kerns for classes.");
        test("1 to 36", () -> {
            Designer x = new Designer();
            for (int i = 0; i < 36; i++) {
                same(i + 1, x.kernClasses(i % 6, i / 6, 0));
            }
        });
        test("36 in place of one of 36", () -> answers(36, ALL_CLASSES, x -> x.kernClasses(5, 5, 1)));
        test("one in place of another does not count, also if it is 0", () ->
                answersInTurn(numbers(1, 1), FURNISHED, x -> x.kernClasses(2, 3, 0)));
        test("one less after dropKern", () ->
                answers(36, ALL_CLASSES.then(x -> x.dropKern(false, 0, 0)), x -> x.kernClasses(0, 0, 0)));
        sentence("Throws `IndexOutOfBoundsException` if there is no such class");
        test("-1, 6 and far ones, on both sides", () -> refuses(INDEX, FURNISHED, x -> x.kernClasses(-1, 0, 0),
                x -> x.kernClasses(0, -1, 0), x -> x.kernClasses(6, 0, 0), x -> x.kernClasses(0, 6, 0),
                x -> x.kernClasses(MIN, 0, 0), x -> x.kernClasses(0, MAX, 0), x -> x.kernClasses(1, -6, 0)));
        sentence("Throws `IllegalArgumentException` if the kern is out of range");
        test("-300 and 300 are taken; -301, 301 and all beyond are not", () ->
                takesOnly(-300, 300, ARGUMENT, FURNISHED, (x, kern) -> x.kernClasses(2, 3, kern)));
    }

    // ---- promise 17 ----

    private void kernPair() {
        promise(17);
        sentence("Tells a kern for two glyphs, in place of one that was told for them.");
        test("in place of one", () -> answers(7, FURNISHED.then(pair(0, 1, 7)), x -> x.kern(0, 1)));
        test("that the other way round stays", () -> answers(25, FURNISHED.then(pair(0, 1, 7)), x -> x.kern(1, 0)));
        test("a glyph with itself", () -> answers(7, FURNISHED.then(pair(2, 2, 7)), x -> x.kern(2, 2)));
        test("the last glyph and the first one", () -> {
            Calls scene = FULL.then(pair(23, 0, 7)).then(pair(0, 23, 8)).then(pair(23, 23, 9));
            answers(7, scene, x -> x.kern(23, 0));
            answers(8, scene, x -> x.kern(0, 23));
            answers(9, scene, x -> x.kern(23, 23));
            answers(0, scene, x -> x.kern(22, 0));
            answers(0, scene, x -> x.kern(1, 0));
        });
        sentence("Returns the number of kerns for glyphs.");
        test("1 to 40", () -> {
            Designer x = glyphs(24).made();
            for (int i = 0; i < 40; i++) {
                same(i + 1, x.kernPair(i % 24, i / 24, 0));
            }
        });
        test("one in place of another does not count, also if it is 0", () -> {
            answersInTurn(numbers(2, 2), FURNISHED, x -> x.kernPair(0, 1, 0));
            answers(40, FORTY, x -> x.kernPair(0, 20, 0));
        });
        test("kerns for classes do not count", () -> answers(1, ALL_CLASSES, x -> x.kernPair(0, 0, 1)));
        test("one less after dropKern", () ->
                answers(40, FORTY.then(x -> x.dropKern(true, 0, 0)), x -> x.kernPair(0, 0, 0)));
        sentence("Throws `IndexOutOfBoundsException` if there is no such glyph");
        test("as the first one", () -> needsGlyph((x, glyph) -> x.kernPair(glyph, 0, 1)));
        test("as the second one", () -> needsGlyph((x, glyph) -> x.kernPair(0, glyph, 1)));
        sentence("Throws `IllegalArgumentException` if the kern is out of range");
        test("-300 and 300 are taken; -301, 301 and all beyond are not", () -> {
            takesOnly(-300, 300, ARGUMENT, FURNISHED, (x, kern) -> x.kernPair(0, 1, kern));
            takesOnly(-300, 300, ARGUMENT, FURNISHED, (x, kern) -> x.kernPair(2, 2, kern));
        });
    }

    private void fullKerns() {
        promise(17);
        sentence("Throws `IllegalStateException` if 40 are told and none for these");
        test("39 are told", () -> answers(40, FORTY.then(x -> x.dropKern(true, 1, 0)), x -> x.kernPair(23, 23, 1)));
        test("40 are told", () -> refuses(STATE, FORTY, x -> x.kernPair(23, 23, 1), x -> x.kernPair(1, 16, 0)));
        test("40 are told, one of them for these the other way round", () ->
                refuses(STATE, FORTY, x -> x.kernPair(2, 0, 1)));
        test("40 are told, one of them for these", () -> {
            answers(40, FORTY, x -> x.kernPair(0, 0, 1));
            answers(40, FORTY, x -> x.kernPair(1, 15, 1));
        });
        test("40 are told, one of them of 0 for these", () -> answers(40, FORTY, x -> x.kernPair(0, 20, 1)));
        test("after undo there is room", () -> answers(40, FORTY.then(Designer::undo), x -> x.kernPair(23, 23, 1)));
    }

    // ---- promise 18 ----

    private void dropKern() {
        promise(18);
        sentence("Forgets a kern that was told.");
        test("of glyphs", () -> {
            Calls scene = FURNISHED.then(x -> x.dropKern(true, 1, 0));
            answers(0, scene, x -> x.kern(1, 0));
            answers(0, scene, x -> x.why(1, 0));
            answers(-40, scene, x -> x.kern(0, 1));
            answers(1, scene, x -> x.account(5));
        });
        test("of classes", () -> {
            Calls scene = FURNISHED.then(x -> x.dropKern(true, 0, 1)).then(x -> x.dropKern(false, 2, 3));
            answers(0, scene, x -> x.kern(0, 1));
            answers(0, scene, x -> x.why(0, 1));
            answers(0, scene, x -> x.account(4));
        });
        test("the classes of the glyphs stay", () ->
                answers(2, FURNISHED.then(x -> x.dropKern(false, 2, 3)), x -> x.glyph(0, 6)));
        sentence("`isPair`: whether it is one for glyphs, and not for classes");
        test("one for the same numbers of the other sort stays", () -> {
            Calls scene = FURNISHED.then(pair(2, 1, 7)).then(classes(2, 1, 8));
            answers(7, scene, x -> x.dropKern(true, 2, 1));
            answers(8, scene, x -> x.dropKern(false, 2, 1));
            answers(8, scene.then(x -> x.dropKern(true, 2, 1)), x -> x.dropKern(false, 2, 1));
            answers(7, scene.then(x -> x.dropKern(false, 2, 1)), x -> x.dropKern(true, 2, 1));
        });
        sentence("Returns the kern.");
        test("the least, the greatest, and 0", () -> {
            Calls scene = glyphs(1).then(classes(0, 0, -300)).then(classes(5, 5, 300)).then(pair(0, 0, 0));
            answers(-300, scene, x -> x.dropKern(false, 0, 0));
            answers(300, scene, x -> x.dropKern(false, 5, 5));
            answers(0, scene, x -> x.dropKern(true, 0, 0));
        });
        sentence("Throws `NoSuchElementException` if none is told for these");
        test("none was told", () -> refuses(MISSING, FURNISHED, x -> x.dropKern(true, 0, 0),
                x -> x.dropKern(true, 2, 2), x -> x.dropKern(false, 0, 0), x -> x.dropKern(false, 5, 5)));
        test("one was told the other way round", () ->
                refuses(MISSING, FURNISHED, x -> x.dropKern(false, 3, 2)));
        test("one was told for the classes of two glyphs, and not for these", () ->
                refuses(MISSING, FURNISHED.then(x -> x.dropKern(true, 0, 1)), x -> x.dropKern(true, 0, 1)));
        test("it was dropped already, also one of 0", () -> {
            refuses(MISSING, FURNISHED.then(x -> x.dropKern(true, 1, 0)), x -> x.dropKern(true, 1, 0));
            refuses(MISSING, FURNISHED.then(x -> x.dropKern(false, 2, 3)), x -> x.dropKern(false, 2, 3));
            refuses(MISSING, NEW.then(classes(1, 1, 0)).then(x -> x.dropKern(false, 1, 1)),
                    x -> x.dropKern(false, 1, 1));
        });
        test("it was undone", () -> refuses(MISSING, glyphs(1).then(pair(0, 0, 1)).then(Designer::undo),
                x -> x.dropKern(true, 0, 0)));
    }

    private void anyIntOfDropKern() {
        promise(18);
        Calls scene = FULL.then(pair(0, 0, 1)).then(pair(1, 0, 2)).then(pair(1, 1, 3)).then(pair(23, 23, 4))
                .then(classes(0, 0, 1)).then(classes(1, 0, 2)).then(classes(1, 1, 3)).then(classes(5, 5, 4));
        sentence("`first`: the first glyph or class, any int");
        test("glyphs that were told, and no int beyond", () -> {
            takesOnly(0, 1, MISSING, scene, (x, first) -> x.dropKern(true, first, 0));
            refuses(MISSING, scene, x -> x.dropKern(true, 24, 0), x -> x.dropKern(true, 24, -1),
                    x -> x.dropKern(true, -1, 24), x -> x.dropKern(true, 22, 47), x -> x.dropKern(true, 3, 1));
        });
        test("classes that were told, and no int beyond", () -> {
            takesOnly(0, 1, MISSING, scene, (x, first) -> x.dropKern(false, first, 0));
            refuses(MISSING, scene, x -> x.dropKern(false, 6, 0), x -> x.dropKern(false, -1, 6),
                    x -> x.dropKern(false, 4, 11), x -> x.dropKern(false, 6, -1));
        });
        sentence("`second`: the second glyph or class, any int");
        test("glyphs that were told, and no int beyond", () -> {
            takesOnly(0, 1, MISSING, scene, (x, second) -> x.dropKern(true, 1, second));
            refuses(MISSING, scene, x -> x.dropKern(true, 0, 24), x -> x.dropKern(true, 0, 25),
                    x -> x.dropKern(true, 1, -24), x -> x.dropKern(true, 2, -23), x -> x.dropKern(true, 0, MAX));
        });
        test("classes that were told, and no int beyond", () -> {
            takesOnly(0, 1, MISSING, scene, (x, second) -> x.dropKern(false, 1, second));
            refuses(MISSING, scene, x -> x.dropKern(false, 0, 6), x -> x.dropKern(false, 0, 7),
                    x -> x.dropKern(false, 1, -6), x -> x.dropKern(false, 2, -5), x -> x.dropKern(false, 0, MIN));
        });
    }

    // ---- promises 19 and 20 ----

    private void kern() {
        promise(19);
        sentence("Returns the kern of two glyphs.");
        test("one for them, though another is told for their classes", () ->
                answers(-40, FURNISHED, x -> x.kern(0, 1)));
        test("one for their classes, if none or none any more is told for them", () ->
                answers(-60, FURNISHED.then(x -> x.dropKern(true, 0, 1)), x -> x.kern(0, 1)));
        test("0 if none is told", () -> {
            answers(0, FURNISHED, x -> x.kern(0, 0));
            answers(0, FURNISHED, x -> x.kern(2, 2));
        });
        test("one of 0 for them, though another is told for their classes", () ->
                answers(0, FURNISHED.then(pair(0, 1, 0)), x -> x.kern(0, 1)));
        test("none of classes for a glyph without a class, also with class 0 and class 5 told", () -> {
            Calls scene = ALL_CLASSES.then(into(0, 0, -1));
            answers(0, scene, x -> x.kern(0, 0));
            answers(0, scene, x -> x.kern(0, 1));
            answers(0, ALL_CLASSES.then(into(0, -1, 5)), x -> x.kern(1, 0));
            answers(0, ALL_CLASSES, x -> x.kern(0, 0));
        });
        sentence("Returns the kern.");
        test("each number from -300 to 300, of glyphs and of classes", () -> {
            for (int i = -300; i <= 300; i++) {
                int kern = i;
                answers(kern, glyphs(1).then(pair(0, 0, kern)), x -> x.kern(0, 0));
                answers(kern, glyphs(1).then(into(0, 5, 0)).then(classes(5, 0, kern)), x -> x.kern(0, 0));
            }
        });
        test("-300 and 300, of glyphs and of classes", () -> {
            answers(-300, glyphs(1).then(pair(0, 0, -300)), x -> x.kern(0, 0));
            answers(300, glyphs(1).then(pair(0, 0, 300)), x -> x.kern(0, 0));
            answers(-300, glyphs(1).then(into(0, 5, 5)).then(classes(5, 5, -300)), x -> x.kern(0, 0));
            answers(300, glyphs(1).then(into(0, 0, 0)).then(classes(0, 0, 300)), x -> x.kern(0, 0));
        });
        sentence("Throws `IndexOutOfBoundsException` if there is no such glyph");
        test("as the first one", () -> needsGlyph((x, glyph) -> x.kern(glyph, 0)));
        test("as the second one", () -> needsGlyph((x, glyph) -> x.kern(0, glyph)));
    }

    private void why() {
        promise(20);
        sentence("Returns why two glyphs have their kern.");
        test("none for the other way round", () -> answers(0, glyphs(2).then(pair(0, 1, 5)), x -> x.why(1, 0)));
        sentence("Returns 3 if one is told for them and one for their classes, too; 2 if one is told for them "
                + "alone; 1 if one is told for their classes alone; 0 if none is told.");
        Calls classed = glyphs(2).then(into(0, 0, -1)).then(into(1, -1, 5));
        test("3, also if both are 0", () -> {
            answers(3, FURNISHED, x -> x.why(0, 1));
            answers(3, classed.then(classes(0, 5, 0)).then(pair(0, 1, 0)), x -> x.why(0, 1));
        });
        test("2 and 1 for each number from -300 to 300", () -> {
            for (int i = -300; i <= 300; i++) {
                int kern = i;
                answers(2, classed.then(pair(0, 1, kern)), x -> x.why(0, 1));
                answers(1, classed.then(classes(0, 5, kern)), x -> x.why(0, 1));
            }
        });
        test("2, also if it is 0", () -> {
            answers(2, FURNISHED, x -> x.why(1, 0));
            answers(2, classed.then(pair(0, 1, 0)), x -> x.why(0, 1));
        });
        test("1, also if it is 0", () -> {
            answers(1, FURNISHED.then(x -> x.dropKern(true, 0, 1)), x -> x.why(0, 1));
            answers(1, classed.then(classes(0, 5, 0)), x -> x.why(0, 1));
        });
        test("0, though both are in a class", () -> {
            answers(0, classed, x -> x.why(0, 1));
            answers(0, FURNISHED, x -> x.why(2, 2));
        });
        test("0 if a glyph was taken out of its class", () ->
                answers(0, classed.then(classes(0, 5, 4)).then(into(1, -1, -1)), x -> x.why(0, 1)));
        sentence("Throws `IndexOutOfBoundsException` if there is no such glyph");
        test("as the first one", () -> needsGlyph((x, glyph) -> x.why(glyph, 0)));
        test("as the second one", () -> needsGlyph((x, glyph) -> x.why(0, glyph)));
    }
}
