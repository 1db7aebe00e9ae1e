/** The sentences on sidebearings: promises 11 to 14. */
final class BearingSentences extends Sentences {
    /** The longest row of rules: each of 48 sidebearings but the first follows the one before. */
    private static final Calls CHAIN = chain(400, 200);

    BearingSentences(Checks checks, Quotes quotes) {
        super(checks, quotes);
    }

    private static Calls chain(int first, int difference) {
        return glyphs(24).then(x -> {
            x.setSide(0, 0, first);
            for (int i = 1; i < 48; i++) {
                x.follow(i / 2, i % 2, (i - 1) / 2, (i - 1) % 2, difference);
            }
        });
    }

    private static Calls rule(int glyph, int side, int other, int otherSide, int difference) {
        return x -> x.follow(glyph, side, other, otherSide, difference);
    }

    private static Calls told(int glyph, int side, int bearing) {
        return x -> x.setSide(glyph, side, bearing);
    }

    @Override
    void testAll() {
        descriptionOfSides();
        descriptionOfRules();
        setSide();
        refusedSides();
        follow();
        refusedRules();
        rulesThatLeadBack();
        side();
        followers();
    }

    private void descriptionOfSides() {
        description("Sidebearings");
        sentence("A glyph has two sides, 0 left and 1 right, and for each side a sidebearing from -200 to 400, at "
                + "first 50.");
        test("at first 50, both", () -> answersEach(numbers(50, 50), glyphs(1), (x, side) -> x.side(0, side, 0)));
        test("-200 and 400 are told, and no int beyond", () ->
                takesOnly(-200, 400, ARGUMENT, FURNISHED, (x, bearing) -> x.setSide(0, 1, bearing)));
        test("sides 0 and 1, and no other one", () ->
                takesOnly(0, 1, INDEX, FURNISHED, (x, side) -> x.side(0, side, 0)));
        test("each has a sidebearing of its own", () ->
                answersEach(numbers(7, 50), glyphs(2).then(told(1, 0, 7)), (x, side) -> x.side(1, side, 0)));
        sentence("The advance of a glyph is the sum of both sidebearings and of the right edge minus the left edge.");
        test("of an empty glyph", () -> answers(100, glyphs(1), x -> x.glyph(0, 5)));
        test("with a left edge that is not 0, on either side of it", () -> {
            answers(110, glyphs(1).then(x -> x.addContour(0, 900, 0, 10, 10)), x -> x.glyph(0, 5));
            answers(110, glyphs(1).then(x -> x.addContour(0, -150, 0, 10, 10)), x -> x.glyph(0, 5));
        });
        test("below 0", () ->
                answers(-400, glyphs(1).then(told(0, 0, -200)).then(told(0, 1, -200)), x -> x.glyph(0, 5)));
        test("with sidebearings of rules, out of the range of those that are told", () ->
                answers(19400, CHAIN, x -> x.glyph(23, 5)));
    }

    private void descriptionOfRules() {
        description("Sidebearings");
        sentence("A sidebearing is told, or it follows a rule: it is that of a side of another glyph, or the other "
                + "side of the same glyph, plus a difference from -200 to 200.");
        test("of another glyph, the same side and the other one", () -> {
            Calls scene = glyphs(2).then(told(0, 0, 70)).then(told(0, 1, 80));
            answers(71, scene, x -> x.follow(1, 0, 0, 0, 1));
            answers(79, scene, x -> x.follow(1, 0, 0, 1, -1));
        });
        test("the other side of the same glyph", () -> {
            answers(57, glyphs(1), x -> x.follow(0, 0, 0, 1, 7));
            answers(57, glyphs(1), x -> x.follow(0, 1, 0, 0, 7));
        });
        test("differences of -200 and 200, and no int beyond", () ->
                takesOnly(-200, 200, ARGUMENT, FURNISHED, (x, difference) -> x.follow(0, 0, 2, 1, difference)));
        test("it follows when the other one changes", () ->
                answers(-195, glyphs(2).then(rule(0, 0, 1, 1, 5)).then(told(1, 1, -200)), x -> x.side(0, 0, 0)));
        sentence("No sidebearing may follow itself over one or more rules.");
        test("over one rule", () -> refuses(UNSUPPORTED, FURNISHED, x -> x.follow(0, 0, 0, 0, 0)));
        test("over two rules, and over 48", () -> {
            refuses(UNSUPPORTED, FURNISHED, x -> x.follow(0, 0, 1, 0, 0));
            refuses(UNSUPPORTED, CHAIN, x -> x.follow(0, 0, 23, 1, 0));
        });
        sentence("What a rule gives can be any number.");
        test("beyond 400 and beyond -200", () -> {
            answers(401, glyphs(2).then(told(1, 0, 400)), x -> x.follow(0, 0, 1, 0, 1));
            answers(-201, glyphs(2).then(told(1, 0, -200)), x -> x.follow(0, 0, 1, 0, -1));
        });
        test("the greatest and the least", () -> {
            answers(400 + 47 * 200, CHAIN, x -> x.side(23, 1, 0));
            answers(-200 - 47 * 200, chain(-200, -200), x -> x.side(23, 1, 0));
        });
    }

    // ---- promise 11 ----

    private void setSide() {
        promise(11);
        sentence("Tells a sidebearing, in place of a rule.");
        test("the rule is gone, and the other sidebearing does not matter any more", () -> {
            Calls scene = FURNISHED.then(told(1, 0, 9));
            answersEach(numbers(9, -1, -1, 0), scene, (x, what) -> x.side(1, 0, what));
            answers(9, scene.then(told(0, 0, -100)), x -> x.side(1, 0, 0));
            answers(0, scene, x -> x.account(3));
        });
        test("those that follow it still do", () -> {
            Calls scene = FURNISHED.then(rule(2, 1, 1, 0, 3)).then(told(1, 0, -200));
            answers(-197, scene, x -> x.side(2, 1, 0));
        });
        test("in place of one that was told, of this side alone", () ->
                answersEach(numbers(400, -20), FURNISHED.then(told(2, 0, 400)), (x, side) -> x.side(2, side, 0)));
        sentence("Returns the sidebearing before, also if it followed a rule.");
        test("one that was told, or not yet", () -> {
            answers(-20, FURNISHED, x -> x.setSide(2, 1, 3));
            answers(50, FURNISHED, x -> x.setSide(2, 0, 3));
        });
        test("one that followed a rule", () -> answers(70, FURNISHED, x -> x.setSide(1, 0, 3)));
        test("one beyond the range over 47 rules", () -> answers(9800, CHAIN, x -> x.setSide(23, 1, 0)));
        test("the same number again", () -> answersInTurn(numbers(60, 7, 7), FURNISHED, x -> x.setSide(0, 0, 7)));
    }

    private void refusedSides() {
        promise(11);
        sentence("Throws `IndexOutOfBoundsException` if there is no such glyph or side");
        test("a glyph beyond the last, -1, far ones, and 0 of none", () ->
                needsGlyph((x, glyph) -> x.setSide(glyph, 0, 1)));
        test("sides 0 and 1, and no other one", () ->
                takesOnly(0, 1, INDEX, FURNISHED, (x, side) -> x.setSide(1, side, 1)));
        sentence("Throws `IllegalArgumentException` if the sidebearing is out of range");
        test("-200 and 400 are taken; -201, 401 and all beyond are not", () -> {
            takesOnly(-200, 400, ARGUMENT, FURNISHED, (x, bearing) -> x.setSide(0, 0, bearing));
            takesOnly(-200, 400, ARGUMENT, FURNISHED, (x, bearing) -> x.setSide(1, 1, bearing));
        });
        test("a rule stays if the number is refused", () ->
                answers(70, FURNISHED.thenTry(x -> x.setSide(1, 0, 401)), x -> x.side(1, 0, 0)));
    }

    // ---- promise 12 ----

    private void follow() {
        promise(12);
        sentence("Lets a sidebearing follow a rule.");
        test("in place of one that was told", () ->
                answersEach(numbers(-30, 2, 1, 1), FURNISHED.then(rule(0, 0, 2, 1, -10)),
                        (x, what) -> x.side(0, 0, what)));
        test("in place of another rule", () -> {
            Calls scene = FURNISHED.then(rule(1, 0, 2, 1, -10));
            answersEach(numbers(-30, 2, 1, 1), scene, (x, what) -> x.side(1, 0, what));
            answers(0, scene, x -> x.followers(0, 0));
            answers(1, scene, x -> x.account(3));
        });
        test("a difference of 0", () -> answers(-20, FURNISHED, x -> x.follow(0, 0, 2, 1, 0)));
        test("those that follow it change", () ->
                answers(-20, FURNISHED.then(rule(0, 0, 2, 1, -10)), x -> x.side(1, 0, 0)));
        sentence("Returns the sidebearing then.");
        test("over one rule and over two", () -> {
            answers(140, FURNISHED, x -> x.follow(2, 0, 0, 0, 80));
            answers(150, FURNISHED, x -> x.follow(2, 0, 1, 0, 80));
        });
        test("beyond the range", () -> {
            answers(600, glyphs(1).then(told(0, 1, 400)), x -> x.follow(0, 0, 0, 1, 200));
            answers(-400, glyphs(1).then(told(0, 1, -200)), x -> x.follow(0, 0, 0, 1, -200));
        });
        test("the same rule again", () -> answersInTurn(numbers(7, 7), FURNISHED, x -> x.follow(2, 0, 2, 1, 27)));
    }

    private void refusedRules() {
        promise(12);
        sentence("Throws `IndexOutOfBoundsException` if there is no such glyph or side");
        test("a glyph beyond the last, -1, far ones, and 0 of none", () ->
                needsGlyph((x, glyph) -> x.follow(glyph, 0, glyph, 1, 0)));
        test("as the one that follows", () -> takesOnly(0, 2, INDEX, FURNISHED, (x, g) -> x.follow(g, 1, 2, 0, 0)));
        test("as the one that is followed", () -> takesOnly(0, 2, INDEX, FURNISHED, (x, g) -> x.follow(2, 0, g, 1, 0)));
        test("sides 0 and 1 that follow, and no other one", () ->
                takesOnly(0, 1, INDEX, FURNISHED, (x, side) -> x.follow(0, side, 2, 0, 0)));
        test("sides 0 and 1 that are followed, and no other one", () ->
                takesOnly(0, 1, INDEX, FURNISHED, (x, side) -> x.follow(2, 0, 0, side, 0)));
        sentence("Throws `IllegalArgumentException` if the difference is out of range");
        test("-200 and 200 are taken; -201, 201 and all beyond are not", () ->
                takesOnly(-200, 200, ARGUMENT, FURNISHED, (x, difference) -> x.follow(1, 1, 2, 1, difference)));
    }

    private void rulesThatLeadBack() {
        promise(12);
        sentence("Throws `UnsupportedOperationException` if the sidebearing would follow itself");
        test("the same side of the same glyph, also with a difference", () ->
                refuses(UNSUPPORTED, FURNISHED, x -> x.follow(0, 0, 0, 0, 0), x -> x.follow(2, 1, 2, 1, 5),
                        x -> x.follow(1, 0, 1, 0, 10)));
        test("over two rules", () -> refuses(UNSUPPORTED, FURNISHED, x -> x.follow(0, 0, 1, 0, -10)));
        test("over three rules, with both sides of a glyph", () -> refuses(UNSUPPORTED,
                FURNISHED.then(rule(1, 1, 1, 0, 0)), x -> x.follow(0, 0, 1, 1, 0)));
        test("over 48 rules, from the first sidebearing and from one in the middle", () ->
                refuses(UNSUPPORTED, CHAIN, x -> x.follow(0, 0, 23, 1, 0), x -> x.follow(12, 0, 23, 1, 0)));
        test("the other side, also of the same glyph, is no hindrance", () -> {
            answers(50, FURNISHED, x -> x.follow(0, 0, 0, 1, 0));
            answers(60, FURNISHED, x -> x.follow(1, 1, 0, 0, 0));
        });
        test("a rule of its own, which ends, is no hindrance", () -> {
            answers(60, FURNISHED, x -> x.follow(1, 0, 0, 0, 0));
            answers(200 + 45 * 200, CHAIN, x -> x.follow(23, 1, 22, 0, 0));
        });
        test("a row of rules that was opened is no hindrance", () -> {
            answers(50, FURNISHED.then(told(1, 0, 50)), x -> x.follow(0, 0, 1, 0, 0));
            answers(10, CHAIN.then(told(12, 0, 0)), x -> x.follow(0, 0, 12, 0, 10));
        });
        test("a row of rules that was undone is no hindrance", () ->
                answers(50, glyphs(2).then(rule(0, 0, 1, 0, 9)).then(Designer::undo), x -> x.follow(1, 0, 0, 0, 0)));
    }

    // ---- promises 13 and 14 ----

    private void side() {
        promise(13);
        sentence("Returns a number of a sidebearing.");
        test("of one that was told and one that was not", () -> {
            answersEach(numbers(-20, -1, -1, 0), FURNISHED, (x, what) -> x.side(2, 1, what));
            answersEach(numbers(50, -1, -1, 0), FURNISHED, (x, what) -> x.side(2, 0, what));
        });
        sentence("`what`: 0 for the sidebearing, 1 for the glyph and 2 for the side that it follows, -1 if it is "
                + "told, 3 for the number of rules over which it goes back to one that is told");
        test("over no rule, one rule and two rules", () -> {
            Calls scene = FURNISHED.then(rule(2, 1, 1, 0, -200));
            answersEach(numbers(60, -1, -1, 0), scene, (x, what) -> x.side(0, 0, what));
            answersEach(numbers(70, 0, 0, 1), scene, (x, what) -> x.side(1, 0, what));
            answersEach(numbers(-130, 1, 0, 2), scene, (x, what) -> x.side(2, 1, what));
        });
        test("over 47 rules, which are the most", () ->
                answersEach(numbers(9800, 23, 0, 47), CHAIN, (x, what) -> x.side(23, 1, what)));
        test("-1 if it is told again", () ->
                answersEach(numbers(3, -1, -1, 0), CHAIN.then(told(23, 1, 3)), (x, what) -> x.side(23, 1, what)));
        test("the rule of the right side of the last glyph", () ->
                answersEach(numbers(50, 2, 1, 1), glyphs(3).then(rule(0, 1, 2, 1, 0)),
                        (x, what) -> x.side(0, 1, what)));
        sentence("Returns the number.");
        test("after a row of rules was cut in the middle", () ->
                answersEach(numbers(7 + 23 * 200, 23, 0, 23), CHAIN.then(told(12, 0, 7)),
                        (x, what) -> x.side(23, 1, what)));
        sentence("Throws `IndexOutOfBoundsException` if there is no such glyph or side");
        test("a glyph beyond the last, -1, far ones, and 0 of none", () ->
                needsGlyph((x, glyph) -> x.side(glyph, 1, 0)));
        test("sides 0 and 1, and no other one", () ->
                takesOnly(0, 1, INDEX, FURNISHED, (x, side) -> x.side(2, side, 3)));
        sentence("Throws `IllegalArgumentException` if what is not from 0 to 3");
        test("0 and 3 are taken; -1, 4 and all beyond are not", () ->
                takesOnly(0, 3, ARGUMENT, FURNISHED, (x, what) -> x.side(1, 0, what)));
    }

    private void followers() {
        promise(14);
        sentence("Returns how many other sidebearings would change if a sidebearing did.");
        test("none, and it is not one of them itself", () -> {
            answers(0, FURNISHED, x -> x.followers(2, 0));
            answers(0, FURNISHED, x -> x.followers(1, 0));
            answers(0, CHAIN, x -> x.followers(23, 1));
        });
        test("not those that it follows", () -> answers(23, CHAIN, x -> x.followers(12, 0)));
        test("a difference of 0 and a sum of 0 count, too", () ->
                answers(2, glyphs(2).then(rule(0, 1, 0, 0, 0)).then(rule(1, 0, 0, 1, -50)), x -> x.followers(0, 0)));
        sentence("Returns the number of those that follow it over one or more rules.");
        test("over one rule", () -> answers(1, FURNISHED, x -> x.followers(0, 0)));
        test("over one and two rules, in two rows", () -> {
            Calls scene = FURNISHED.then(rule(0, 1, 1, 0, 1)).then(rule(1, 1, 1, 0, 1)).then(rule(2, 0, 0, 0, 1));
            answers(4, scene, x -> x.followers(0, 0));
            answers(2, scene, x -> x.followers(1, 0));
        });
        test("over 47 rules, which are the most", () -> answers(47, CHAIN, x -> x.followers(0, 0)));
        test("47 over one rule each", () -> {
            Calls star = glyphs(24).then(x -> {
                for (int i = 1; i < 48; i++) {
                    x.follow(i / 2, i % 2, 0, 0, 0);
                }
            });
            answers(47, star, x -> x.followers(0, 0));
        });
        test("the first and the last of 48 sidebearings, as those that follow", () -> {
            Calls ends = glyphs(24).then(rule(0, 0, 11, 1, 0)).then(rule(23, 1, 0, 0, 0));
            answers(2, ends, x -> x.followers(11, 1));
            answers(1, ends, x -> x.followers(0, 0));
        });
        test("after a rule has ended", () -> {
            answers(0, FURNISHED.then(told(1, 0, 70)), x -> x.followers(0, 0));
            answers(23, CHAIN.then(told(12, 0, 7)), x -> x.followers(0, 0));
        });
        test("the left and the right side are different ones", () -> answers(0, FURNISHED, x -> x.followers(0, 1)));
        sentence("Throws `IndexOutOfBoundsException` if there is no such glyph or side");
        test("a glyph beyond the last, -1, far ones, and 0 of none", () ->
                needsGlyph((x, glyph) -> x.followers(glyph, 0)));
        test("sides 0 and 1, and no other one", () ->
                takesOnly(0, 1, INDEX, FURNISHED, (x, side) -> x.followers(1, side)));
    }
}
