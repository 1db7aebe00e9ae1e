/** The sentences on changes and exceptions: promises 39 to 41. */
final class ChangeSentences extends Sentences {
    /** FURNISHED without changes that are kept, and with an empty buffer; save and restore are in it. */
    private static final Calls SETTLED =
            FURNISHED.then(Designer::takeProof).then(Designer::save).then(Designer::restore);

    /** A call of each sort of change that changes the design. */
    private static final Calls[] CHANGES = {
        x -> x.addGlyph('z'), x -> x.addContour(0, 5, 5, 5, 5), x -> x.movePoint(0, 0, 0, -9, 0), x -> x.shift(0, 3, 4),
        x -> x.setSide(0, 0, 61), x -> x.setSide(1, 0, 8), x -> x.follow(0, 1, 1, 1, 9), x -> x.follow(1, 0, 1, 1, 8),
        x -> x.setClass(0, true, 1), x -> x.setClass(0, false, 1), x -> x.setClass(0, true, -1),
        x -> x.kernClasses(2, 3, 6), x -> x.kernClasses(0, 0, 6), x -> x.kernPair(0, 1, 8), x -> x.kernPair(1, 1, 8),
        x -> x.dropKern(true, 0, 1), x -> x.dropKern(false, 2, 3), x -> x.addStem(0, -9, 0),
        x -> x.addStem(0, 100, 200), x -> x.removeStem(0, 0), x -> x.setProof(10, 77), x -> x.setProof(11, 300),
        read("A(0,0 1,1 2,0)"), read("~(0,0 1,1 2,0)")};

    /** Calls that succeed and leave the design as it is. */
    private static final Calls[] CHANGES_WITHOUT_EFFECT = {
        x -> x.movePoint(0, 0, 0, 0, 0), x -> x.shift(0, 0, 0), x -> x.shift(2, 9, 9), x -> x.setSide(0, 0, 60),
        x -> x.follow(1, 0, 0, 0, 10), x -> x.setClass(0, true, 2), x -> x.setClass(2, false, -1),
        x -> x.kernClasses(2, 3, -60), x -> x.kernPair(0, 1, -40), x -> x.setProof(10, 300),
        read("B(20,30 320,30 320,630 20,630)")};

    /** Calls that are no changes. */
    private static final Calls.Question[] NO_CHANGES = {
        x -> x.glyph(0, 5), x -> x.find('A'), x -> x.points(0, 0), x -> x.point(0, 0, 0, true), x -> x.area(0, 0),
        x -> x.side(1, 0, 3), x -> x.followers(0, 0), x -> x.kern(0, 1), x -> x.why(0, 1), x -> x.stem(0, 0, true),
        x -> x.place(0, 10, 95), x -> bit(x.isBlack(0, 10, 1, 1)), x -> x.blackPixels(0, 10), Designer::proofWidth,
        x -> x.position(1), x -> x.lines(1), x -> x.line(1, 1, 0), x -> x.leastMeasure(1), x -> (long) x.meanAdvance(),
        x -> x.account(8), Designer::faultPosition};

    ChangeSentences(Checks checks, Quotes quotes) {
        super(checks, quotes);
    }

    @Override
    void testAll() {
        descriptionOfChanges();
        descriptionOfKeptChanges();
        descriptionOfTheDesign();
        descriptionOfExceptions();
        firstOfTwoExceptions();
        firstOfTwoExceptionsWithoutRoom();
        undo();
        undoAgain();
        save();
        restore();
    }

    /** Adds glyphs, so that it shows how many changes were undone. */
    private static Calls changes(int count) {
        return glyphs(count);
    }

    private static Calls undone(int count) {
        return x -> {
            for (int i = 0; i < count; i++) {
                x.undo();
            }
        };
    }

    // ---- the description ----

    private void descriptionOfChanges() {
        description("Changes");
        sentence("A change is a successful call of addGlyph, addContour, movePoint, shift, setSide, follow, "
                + "setClass, kernClasses, kernPair, dropKern, addStem, removeStem, setProof or readGlyph.");
        test("each of them changes the design and can be undone, and nothing is left of it", () -> {
            String before = State.ofDesign(SETTLED);
            for (Calls change : CHANGES) {
                different(before, State.ofDesign(SETTLED.then(change)));
                answers(0, SETTLED.then(change), Designer::undo);
                same(before, State.ofDesign(SETTLED.then(change).then(Designer::undo)));
            }
        });
        test("each of them counts, though it leaves the design as it is", () -> {
            String before = State.ofDesign(SETTLED);
            for (Calls change : CHANGES_WITHOUT_EFFECT) {
                same(before, State.ofDesign(SETTLED.then(change)));
                answersInTurn(numbers(1, 0), SETTLED.then(x -> x.addGlyph('z')).then(change), Designer::undo);
            }
        });
        test("none of them counts if it is refused", () -> {
            refuses(STATE, SETTLED, x -> x.addGlyph('A'));
            refuses(UNSUPPORTED, SETTLED, x -> x.follow(0, 0, 1, 0, 0));
            refuses(ARGUMENT, SETTLED, x -> x.addContour(0, 0, 0, 0, 1), x -> x.movePoint(0, 0, 0, 5000, 0),
                    x -> x.shift(0, 0, 5000), x -> x.setSide(0, 0, 401), x -> x.follow(0, 0, 2, 0, 201),
                    x -> x.setClass(0, true, 6), x -> x.kernClasses(0, 0, 301), x -> x.kernPair(0, 0, 301),
                    x -> x.addStem(0, 5, 5), x -> x.setProof(201, 50));
            refuses(MISSING, SETTLED, x -> x.dropKern(true, 2, 2));
            refuses(INDEX, SETTLED, x -> x.removeStem(0, 2));
            refuses(STATE, SETTLED.thenTry(Designer::readGlyph), Designer::undo);
        });
        test("no other call is one, and none changes anything", () -> {
            Calls asked = FURNISHED;
            for (Calls.Question question : NO_CHANGES) {
                asked = asked.then(x -> question.of(x));
            }
            same(State.of(FURNISHED), State.of(asked));
        });
        test("neither append nor takeProof nor save is one", () -> {
            Calls scene = SETTLED.then(typed("AB")).then(Designer::takeProof).then(Designer::save);
            same(STATE.getName(), Calls.outcome(scene.made(), Designer::undo));
        });
    }

    private void descriptionOfKeptChanges() {
        description("Changes");
        sentence("The design before each of the latest 8 changes is kept and can be undone; restore forgets them.");
        test("8 changes are all kept", () -> {
            answersInTurn(numbers(7, 6, 5, 4, 3, 2, 1, 0), changes(8), Designer::undo);
            answers(0, changes(8).then(undone(8)), x -> x.account(0));
            refuses(STATE, changes(8).then(undone(8)), Designer::undo);
        });
        test("of 9 changes the first one is not kept", () -> {
            answersInTurn(numbers(7, 6, 5, 4, 3, 2, 1, 0), changes(9), Designer::undo);
            answers(1, changes(9).then(undone(8)), x -> x.account(0));
            refuses(STATE, changes(9).then(undone(8)), Designer::undo);
        });
        test("of 24 changes the last 8 are kept, and each design is that before its change", () -> {
            for (int count = 0; count <= 8; count++) {
                answers(24 - count, changes(24).then(undone(count)), x -> x.account(0));
            }
            refuses(STATE, changes(24).then(undone(8)), Designer::undo);
        });
        test("8 changes of different sorts, one design after the other", () -> {
            Calls[] made = {x -> x.addGlyph('z'), x -> x.addContour(3, 5, 5, 5, 5), x -> x.follow(3, 0, 1, 0, 1),
                x -> x.kernPair(3, 3, 5), x -> x.addStem(3, 1, 2), x -> x.setProof(1, 100), x -> x.removeStem(3, 0),
                x -> x.setClass(3, true, 0)};
            Calls all = SETTLED;
            for (Calls change : made) {
                all = all.then(change);
            }
            Calls some = SETTLED;
            for (int i = 0; i < made.length; i++) {
                same(State.ofDesign(some), State.ofDesign(all.then(undone(made.length - i))));
                some = some.then(made[i]);
            }
        });
        test("restore forgets them, though it brings back the same design", () -> {
            refuses(STATE, FURNISHED.then(Designer::save).then(Designer::restore), Designer::undo);
            Calls many = changes(1).then(Designer::save).then(changesAfter('a', 20));
            refuses(STATE, many.then(Designer::restore), Designer::undo);
        });
        test("after restore 8 changes are kept again, and no older ones", () -> {
            Calls scene = changes(3).then(Designer::save).then(Designer::restore);
            answersInTurn(numbers(1, 0), scene.then(changesAfter('a', 2)), Designer::undo);
            refuses(STATE, scene.then(changesAfter('a', 2)).then(undone(2)), Designer::undo);
            answersInTurn(numbers(7, 6, 5, 4, 3, 2, 1, 0), scene.then(changesAfter('a', 9)), Designer::undo);
            answers(4, scene.then(changesAfter('a', 9)).then(undone(8)), x -> x.account(0));
        });
    }

    private static Calls changesAfter(char code, int count) {
        return x -> {
            for (int i = 0; i < count; i++) {
                x.addGlyph(code + i);
            }
        };
    }

    private void descriptionOfTheDesign() {
        description("Changes");
        sentence("The tracking and the space width belong to the design, the text buffer, the fault position and "
                + "the proof do not; undo and restore forget the proof.");
        test("undo and restore bring back the tracking and the space width", () -> {
            Calls two = proof("  ");
            Calls undone = NEW.then(x -> x.setProof(11, 60)).then(x -> x.setProof(-7, 70)).then(Designer::undo);
            answers(60 + 11 + 60, undone.then(two), Designer::proofWidth);
            answers(250 + 250, undone.then(Designer::undo).then(two), Designer::proofWidth);
            Calls saved = NEW.then(x -> x.setProof(11, 60)).then(Designer::save).then(x -> x.setProof(-7, 70));
            answers(60 + 11 + 60, saved.then(Designer::restore).then(two), Designer::proofWidth);
        });
        test("undo and restore leave the text buffer, full or empty", () -> {
            answers(2, changes(2).then(typed("AA")).then(Designer::undo), Designer::takeProof);
            answers(2, changes(2).then(Designer::save).then(typed("AA")).then(Designer::restore), Designer::takeProof);
            answers(60, changes(2).then(typed("A".repeat(60))).then(Designer::undo), Designer::takeProof);
            Calls emptied = typed("A").then(changes(2)).then(Designer::save).then(Designer::takeProof);
            answers(0, emptied.then(Designer::restore), Designer::takeProof);
        });
        test("undo and restore leave the fault position", () -> {
            Calls fault = changes(2).then(Designer::save).then(typed("A(")).thenTry(Designer::readGlyph);
            answers(2, fault.then(Designer::undo), Designer::faultPosition);
            answers(2, fault.then(Designer::restore), Designer::faultPosition);
            Calls none = changes(2).thenTry(Designer::readGlyph).then(Designer::save).then(read("A(0,0 1,1 2,2)"));
            answers(-1, none.then(Designer::undo), Designer::faultPosition);
            answers(-1, none.then(Designer::restore), Designer::faultPosition);
        });
        test("undo and restore forget the proof, and no earlier one comes back", () -> {
            Calls taken = changes(2).then(proof("A")).then(Designer::save).then(changesAfter('a', 1)).then(proof("AB"));
            refuses(MISSING, taken.then(Designer::undo), Designer::proofWidth, x -> x.position(0),
                    x -> x.line(1, 0, 0));
            refuses(MISSING, taken.then(Designer::restore), Designer::proofWidth, x -> x.position(0));
            answers(0, taken.then(Designer::undo), x -> x.lines(1));
        });
        test("undo and restore that are refused do not forget it", () -> {
            answers(515, SETTLED.then(proof("A")).thenTry(Designer::undo), Designer::proofWidth);
            answers(100, changes(2).then(proof("A")).thenTry(Designer::restore), Designer::proofWidth);
        });
        test("changes and save leave the proof", () -> {
            Calls changed = changes(2).then(proof("A")).then(changesAfter('a', 9));
            answers(100, changed.then(Designer::save), Designer::proofWidth);
        });
    }

    private void descriptionOfExceptions() {
        description("Exceptions");
        sentence("A call that throws an exception leaves the state unchanged, unless stated otherwise.");
        test("calls that are refused for their numbers", () -> refuses(INDEX, FURNISHED,
                x -> x.addContour(3, 0, 0, 1, 1), x -> x.movePoint(0, 0, 4, 1, 1), x -> x.shift(-1, 1, 1),
                x -> x.setSide(0, 2, 1), x -> x.follow(0, 0, 3, 0, 1), x -> x.setClass(3, true, 1),
                x -> x.kernClasses(6, 0, 1), x -> x.kernPair(0, 3, 1), x -> x.addStem(3, 0, 1),
                x -> x.removeStem(0, 2)));
        test("calls that are refused for what they find", () -> {
            refuses(STATE, FULL.then(x -> x.save()), x -> x.addGlyph('z'));
            refuses(STATE, FURNISHED, x -> x.addGlyph('B'), x -> x.addStem(0, 90, 100));
            refuses(STATE, NEW, Designer::undo, Designer::restore);
            refuses(STATE, SETTLED.then(proof("AB")), Designer::undo);
            refuses(STATE, changes(2).then(proof("AB")), Designer::restore);
            refuses(MISSING, FURNISHED, x -> x.dropKern(true, 2, 2), x -> x.dropKern(false, 0, 0));
        });
        test("many refused calls one after the other", () -> {
            Calls tried = FURNISHED;
            for (int i = 0; i < 20; i++) {
                tried = tried.thenTry(x -> x.addGlyph('A')).thenTry(x -> x.setSide(0, 0, 500))
                        .thenTry(x -> x.dropKern(true, 0, 0)).thenTry(x -> x.setProof(0, 0));
            }
            same(State.of(FURNISHED), State.of(tried));
        });
    }

    private void firstOfTwoExceptions() {
        description("Exceptions");
        sentence("If several conditions of a method are fulfilled, the one that is listed first determines the "
                + "exception.");
        test("promise 3, addContour: no such glyph, and a width of 0", () ->
                refuses(INDEX, FURNISHED, x -> x.addContour(3, 0, 0, 0, 0), x -> x.addContour(-1, MAX, MAX, MAX, MAX)));
        test("promise 4, movePoint: no such glyph, contour or point, and a coordinate out of range", () ->
                refuses(INDEX, FURNISHED, x -> x.movePoint(3, 0, 0, MAX, 0), x -> x.movePoint(0, 2, 0, MAX, 0),
                        x -> x.movePoint(0, 0, 4, MAX, MIN), x -> x.movePoint(0, 0, -1, 0, MIN)));
        test("promise 5, shift: no such glyph, and a coordinate out of range", () ->
                refuses(INDEX, FURNISHED, x -> x.shift(3, MAX, 0), x -> x.shift(-1, 0, MIN)));
        test("promise 6, glyph: no such glyph, and no such number", () ->
                refuses(INDEX, FURNISHED, x -> x.glyph(3, 10), x -> x.glyph(-1, -1)));
        test("promise 11, setSide: no such glyph or side, and a sidebearing out of range", () ->
                refuses(INDEX, FURNISHED, x -> x.setSide(3, 0, 401), x -> x.setSide(0, 2, -201)));
        test("promise 12, follow: no such glyph or side, and a difference out of range", () ->
                refuses(INDEX, FURNISHED, x -> x.follow(3, 0, 0, 0, 201), x -> x.follow(0, 2, 0, 0, 201),
                        x -> x.follow(0, 0, 3, 0, -201), x -> x.follow(0, 0, 0, -1, 201)));
        test("promise 12, follow: no such glyph or side, and it would follow itself", () ->
                refuses(INDEX, FURNISHED, x -> x.follow(3, 0, 3, 0, 0), x -> x.follow(0, 2, 0, 2, 0)));
        test("promise 12, follow: a difference out of range, and it would follow itself", () ->
                refuses(ARGUMENT, FURNISHED, x -> x.follow(0, 0, 0, 0, 201), x -> x.follow(0, 0, 1, 0, -201)));
        test("promise 13, side: no such glyph or side, and no such number", () ->
                refuses(INDEX, FURNISHED, x -> x.side(3, 0, 4), x -> x.side(0, 2, 4), x -> x.side(0, -1, -1)));
        test("promise 15, setClass: no such glyph, and no such class", () ->
                refuses(INDEX, FURNISHED, x -> x.setClass(3, true, 6), x -> x.setClass(-1, false, -2)));
        test("promise 16, kernClasses: no such class, and a kern out of range", () ->
                refuses(INDEX, FURNISHED, x -> x.kernClasses(6, 0, 301), x -> x.kernClasses(0, -1, -301)));
        test("promise 17, kernPair: no such glyph, and a kern out of range", () ->
                refuses(INDEX, FURNISHED, x -> x.kernPair(3, 0, 301), x -> x.kernPair(0, -1, -301)));
        test("promise 21, addStem: no such glyph, and ends out of range or order", () ->
                refuses(INDEX, FURNISHED, x -> x.addStem(3, -201, 0), x -> x.addStem(-1, 5, 5)));
        test("promise 24, place: no such glyph, and a size or x out of range", () ->
                refuses(INDEX, FURNISHED, x -> x.place(3, 5, 0), x -> x.place(-1, 6, 2001)));
        test("promise 25, isBlack: no such glyph, and an argument out of range", () ->
                refuses(INDEX, FURNISHED, x -> bit(x.isBlack(3, 5, 0, 0)), x -> bit(x.isBlack(-1, 6, 101, 0))));
        test("promise 26, blackPixels: no such glyph, and a size out of range", () ->
                refuses(INDEX, FURNISHED, x -> x.blackPixels(3, 5), x -> x.blackPixels(-1, 25)));
        test("promise 33, line: a measure or what out of range, and no such line", () ->
                refuses(ARGUMENT, FURNISHED, x -> x.line(0, 9, 0), x -> x.line(1, 9, 3), x -> x.line(100001, -1, 0)));
    }

    private void firstOfTwoExceptionsWithoutRoom() {
        description("Exceptions");
        sentence("If several conditions of a method are fulfilled, the one that is listed first determines the "
                + "exception.");
        test("promise 2, addGlyph: a code out of range, and 24 glyphs", () ->
                refuses(ARGUMENT, FULL, x -> x.addGlyph(32), x -> x.addGlyph(127)));
        test("promise 3, addContour: a width of 0 or a coordinate out of range, and 3 contours", () -> {
            Calls three = FURNISHED.then(x -> x.addContour(0, 0, 0, 1, 1));
            refuses(ARGUMENT, three, x -> x.addContour(0, 0, 0, 0, 1), x -> x.addContour(0, 1200, 0, 1, 1));
        });
        test("promise 17, kernPair: no such glyph or a kern out of range, and 40 kerns", () -> {
            Calls forty = glyphs(24).then(x -> {
                for (int i = 0; i < 40; i++) {
                    x.kernPair(i / 24, i % 24, 1);
                }
            });
            refuses(INDEX, forty, x -> x.kernPair(24, 0, 1), x -> x.kernPair(0, 24, 301));
            refuses(ARGUMENT, forty, x -> x.kernPair(23, 23, 301));
        });
        test("promise 21, addStem: ends out of range or order, and 4 stems or one that is touched", () -> {
            refuses(ARGUMENT, FURNISHED, x -> x.addStem(0, -201, 50), x -> x.addStem(0, 50, 50),
                    x -> x.addStem(0, 60, 50));
            Calls four = FURNISHED.then(x -> x.addStem(0, 100, 110)).then(x -> x.addStem(0, 120, 130));
            refuses(ARGUMENT, four, x -> x.addStem(0, 700, 700), x -> x.addStem(0, 1100, 1201));
        });
        test("promise 34, leastMeasure: a number out of range, and no measure that is sufficient", () -> {
            Calls wide = glyphs(24).then(x -> {
                for (int i = 1; i < 48; i++) {
                    x.follow(i / 2, i % 2, (i - 1) / 2, (i - 1) % 2, 200);
                }
            }).then(proof("XXXXX XXXXX"));
            refuses(MISSING, wide, x -> x.leastMeasure(1));
            refuses(ARGUMENT, wide, x -> x.leastMeasure(0), x -> x.leastMeasure(61));
        });
        test("promise 37, readGlyph: a fault, and what does not fit before it", () -> {
            throwsThis(ARGUMENT, typed("A(9999,0 1,1 2,2"), Designer::readGlyph);
            throwsThis(ARGUMENT, typed("A(0,0 1,1 2,2)(0,0 1,1 2,2)(0,0 1,1 2,2)(0,0 1,1 2,2"), Designer::readGlyph);
            throwsThis(ARGUMENT, typed("A(0,0 1,1 2,2 3,3 4,4 5,5 6,6 7,7 8,8 9,9 0,1 0,2 0,3"), Designer::readGlyph);
            throwsThis(ARGUMENT, FULL.then(typed("z(0,0 1,1 2,2")), Designer::readGlyph);
        });
    }

    // ---- promises 39 to 41 ----

    private void undo() {
        promise(39);
        sentence("Undoes the latest change that is kept.");
        test("of several, one after the other", () -> {
            for (int count = 1; count <= 3; count++) {
                answers(3 - count, changes(3).then(undone(count)), x -> x.account(0));
            }
        });
        test("to the very design before, from a design with all in it", () -> {
            Calls before = SETTLED.then(x -> x.addStem(1, -100, -50));
            same(State.ofDesign(before), State.ofDesign(before.then(x -> x.shift(0, 1, 1)).then(Designer::undo)));
        });
        test("a refused call after the change is passed over", () ->
                answers(2, changes(3).thenTry(x -> x.addGlyph('A')).then(Designer::undo), x -> x.account(0)));
        test("a glyph that came with the change is gone, with its code", () ->
                refuses(MISSING, changes(3).then(Designer::undo), x -> x.find('C')));
        test("the snapshot stays", () -> {
            Calls saved = changes(3).then(Designer::save).then(undone(2));
            answers(3, saved.then(Designer::restore), x -> x.account(0));
        });
        sentence("Returns the number of changes that can still be undone.");
        test("7 at the most, and 0", () -> {
            answers(7, changes(8), Designer::undo);
            answers(7, changes(24), Designer::undo);
            answers(6, changes(7), Designer::undo);
            answers(0, changes(1), Designer::undo);
        });
        sentence("Throws `IllegalStateException` if no change is kept");
        test("none was made", () -> refuses(STATE, NEW, Designer::undo));
        test("none was successful", () -> refuses(STATE, NEW.thenTry(x -> x.addGlyph(32)), Designer::undo));
        test("all that are kept were undone: 1, 8, and 8 of 9", () -> {
            refuses(STATE, changes(1).then(undone(1)), Designer::undo);
            refuses(STATE, changes(8).then(undone(8)), Designer::undo);
            refuses(STATE, changes(9).then(undone(8)), Designer::undo);
        });
        test("restore has forgotten them", () ->
                refuses(STATE, changes(9).then(Designer::save).then(Designer::restore), Designer::undo));
        test("only other calls than changes were made", () ->
                refuses(STATE, NEW.then(Designer::save).then(typed(" ")).then(Designer::takeProof), Designer::undo));
    }

    private void undoAgain() {
        promise(39);
        sentence("Undoes the latest change that is kept.");
        test("changes after undoing take the place of those that were undone", () -> {
            Calls scene = changes(8).then(undone(3)).then(changesAfter('a', 2));
            answersInTurn(numbers(6, 5, 4, 3, 2, 1, 0), scene, Designer::undo);
            answers(5, scene.then(undone(2)), x -> x.account(0));
            refuses(MISSING, scene, x -> x.find('H'), x -> x.find('F'));
        });
        test("8 changes after undoing are all kept", () -> {
            Calls scene = changes(9).then(undone(8)).then(changesAfter('a', 8));
            answersInTurn(numbers(7, 6, 5, 4, 3, 2, 1, 0), scene, Designer::undo);
            answers(1, scene.then(undone(8)), x -> x.account(0));
        });
        test("9 changes after undoing: the oldest of all is not kept", () -> {
            Calls scene = changes(5).then(undone(2)).then(changesAfter('a', 9));
            answers(4, scene.then(undone(8)), x -> x.account(0));
            refuses(STATE, scene.then(undone(8)), Designer::undo);
        });
        test("undo is no change itself", () ->
                answersInTurn(numbers(1, 0), changes(3).then(Designer::undo), Designer::undo));
    }

    private void save() {
        promise(40);
        sentence("Saves the design, in place of an earlier snapshot.");
        test("in place of one with more glyphs, and of one with fewer", () -> {
            Calls fewer = changes(3).then(Designer::save).then(undone(2)).then(Designer::save);
            answers(1, fewer.then(changesAfter('a', 5)).then(Designer::restore), x -> x.account(0));
            Calls more = changes(1).then(Designer::save).then(changesAfter('a', 5)).then(Designer::save);
            answers(6, more.then(undone(4)).then(Designer::restore), x -> x.account(0));
        });
        test("an empty design, of a new object", () ->
                answers(0, NEW.then(Designer::save).then(changes(3)).then(Designer::restore), x -> x.account(0)));
        test("a full design", () -> {
            Calls emptied = FULL.then(Designer::save).then(undone(8)).then(Designer::restore);
            same(State.ofDesign(FULL), State.ofDesign(emptied));
        });
        test("the same design twice", () -> same(State.ofDesign(FURNISHED),
                State.ofDesign(FURNISHED.then(Designer::save).then(Designer::save).then(Designer::restore))));
        test("it leaves the design, the changes that are kept, the proof, the buffer and the fault position", () -> {
            Calls once = FURNISHED.then(Designer::save);
            same(State.of(once), State.of(once.then(Designer::save)));
            same(State.ofDesign(FURNISHED), State.ofDesign(once));
            same(State.ofChanges(FURNISHED), State.ofChanges(once));
            answers(2, once, Designer::takeProof);
            answers(2, once, Designer::faultPosition);
            answers(FURNISHED.made().proofWidth(), once, Designer::proofWidth);
        });
        test("later changes and undo do not reach the snapshot", () -> {
            Calls saved = SETTLED.then(Designer::save);
            Calls changed = saved;
            Calls[] changes = {x -> x.shift(0, 5, 5), x -> x.setSide(0, 0, 1), x -> x.setClass(0, true, 5),
                x -> x.kernPair(0, 1, 7), x -> x.kernClasses(2, 3, 7), x -> x.addStem(0, -5, -4),
                x -> x.setProof(1, 51), x -> x.addGlyph('z'), Designer::undo, Designer::undo};
            for (Calls change : changes) {
                changed = changed.then(change);
                same(State.ofDesign(SETTLED), State.ofDesign(changed.then(Designer::restore)));
            }
        });
    }

    private void restore() {
        promise(41);
        sentence("Restores what was saved; the snapshot is kept.");
        test("all of the design", () -> {
            Calls changed = SETTLED.then(Designer::save);
            for (Calls change : CHANGES) {
                changed = changed.thenTry(x -> {
                    change.on(x);
                    return 0;
                });
            }
            different(State.ofDesign(SETTLED), State.ofDesign(changed));
            same(State.ofDesign(SETTLED), State.ofDesign(changed.then(Designer::restore)));
        });
        test("again and again, also after changes of what was restored", () -> {
            Calls twice = SETTLED.then(Designer::save).then(Designer::restore).then(Designer::restore);
            same(State.ofDesign(SETTLED), State.ofDesign(twice));
            Calls changed = twice.then(x -> x.shift(0, 5, 5)).then(x -> x.addGlyph('z')).then(x -> x.setSide(1, 0, 0));
            same(State.ofDesign(SETTLED), State.ofDesign(changed.then(Designer::restore)));
            Calls undone = changed.then(undone(3)).then(Designer::restore);
            same(State.ofDesign(SETTLED), State.ofDesign(undone));
        });
        test("an empty design in place of a full one, and the other way round", () -> {
            Calls emptied = NEW.then(Designer::save).then(FULL).then(Designer::restore);
            answers(0, emptied, x -> x.account(0));
            answers(23, emptied.then(glyphs(23)), x -> x.addGlyph('z'));
        });
        test("the codes, though other glyphs came in their place", () -> {
            Calls other = changes(2).then(Designer::save).then(undone(2)).then(changesAfter('a', 2));
            answers('A', other.then(Designer::restore), x -> x.glyph(0, 0));
            answers(1, other.then(Designer::restore), x -> x.find('B'));
        });
        test("a glyph that was added after save is gone, with its code", () ->
                refuses(MISSING, changes(2).then(Designer::save).then(changesAfter('a', 1)).then(Designer::restore),
                        x -> x.find('a')));
        sentence("Throws `IllegalStateException` if there is no snapshot");
        test("of a new object, and after changes", () -> {
            refuses(STATE, NEW, Designer::restore);
            refuses(STATE, changes(9).then(proof("AB")).then(typed("A")), Designer::restore);
        });
        test("of another object than the one that was saved", () -> {
            FURNISHED.then(Designer::save).made();
            refuses(STATE, changes(2), Designer::restore);
        });
    }
}
