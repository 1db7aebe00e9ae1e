import java.util.NoSuchElementException;

/**
 * Tests of the document's sentences. Each test belongs to the sentence that is quoted before it, of the promise or the
 * part of the description that is named before that.
 */
abstract class Sentences {
    interface Body {
        void run();
    }

    static final Class<IndexOutOfBoundsException> INDEX = IndexOutOfBoundsException.class;
    static final Class<IllegalArgumentException> ARGUMENT = IllegalArgumentException.class;
    static final Class<IllegalStateException> STATE = IllegalStateException.class;
    static final Class<NoSuchElementException> MISSING = NoSuchElementException.class;
    static final Class<UnsupportedOperationException> UNSUPPORTED = UnsupportedOperationException.class;
    static final Class<ArithmeticException> ARITHMETIC = ArithmeticException.class;
    static final int MIN = Integer.MIN_VALUE;
    static final int MAX = Integer.MAX_VALUE;

    /** A new object. */
    static final Calls NEW = x -> { };

    /** 24 glyphs with a contour and a stem each. */
    static final Calls FULL = glyphs(24).then(x -> {
        for (int glyph = 0; glyph < 24; glyph++) {
            x.addContour(glyph, 0, 0, 100, 100);
            x.addStem(glyph, 10, 20);
        }
    });

    /** Three glyphs, the last one empty, and something of all that an object keeps, so that a change of it shows. */
    static final Calls FURNISHED = glyphs(3).then(x -> {
        x.addContour(0, 0, 0, 400, 700);
        x.addContour(0, 50, 60, 70, 80);
        x.addContour(1, 20, 30, 300, 600);
        x.addStem(0, 10, 90);
        x.addStem(0, 300, 390);
        x.setSide(0, 0, 60);
        x.follow(1, 0, 0, 0, 10);
        x.setClass(0, true, 2);
        x.setClass(1, false, 3);
        x.kernClasses(2, 3, -60);
        x.kernPair(1, 0, 25);
        x.setProof(7, 240);
        x.save();
        x.addStem(1, 30, 80);
        x.setSide(2, 1, -20);
        x.kernPair(0, 1, -40);
        x.movePoint(0, 0, 2, 5, 6);
        x.setProof(10, 300);
    }).then(typed("B(")).thenTry(Designer::readGlyph).then(proof("AB A")).then(typed("BA"));

    private static final int BESIDE = 4;
    private static final int[] STRANGE = {MIN, MIN + 1, -65536, -256, -1, 0, 1, 256, 65536, MAX - 1, MAX};

    private final Checks checks;
    private final Quotes quotes;
    private String section = "";
    private String quoted = "";

    Sentences(Checks checks, Quotes quotes) {
        this.checks = checks;
        this.quotes = quotes;
    }

    abstract void testAll();

    // ---- which sentence a test is of ----

    final void promise(int number) {
        section("Promise " + number);
    }

    final void description(String part) {
        section("Description, " + part);
    }

    final void section(String name) {
        section = name;
    }

    final void sentence(String text) {
        quoted = text;
    }

    final void test(String boundary, Body body) {
        quotes.add(section, quoted);
        checks.begin(section + ", \"" + quoted + "\", " + boundary);
        try {
            body.run();
        } catch (RuntimeException | Error e) {
            checks.fault("threw " + e + place(e));
        }
    }

    // ---- what a test can ask ----

    final void same(Object want, Object got) {
        checks.isDue("what was asked" + place(new Throwable()), want, got);
    }

    final void different(Object one, Object other) {
        if (one.equals(other)) {
            checks.fault("what was asked" + place(new Throwable()) + " should differ from " + one);
        }
    }

    final void answers(long want, Calls scene, Calls.Question question) {
        same(Long.toString(want), Calls.outcome(scene.made(), question));
    }

    /** The same call has these answers one after the other, on one object. */
    final void answersInTurn(long[] wants, Calls scene, Calls.Question question) {
        Designer x = scene.made();
        for (long want : wants) {
            same(Long.toString(want), Calls.outcome(x, question));
        }
    }

    /** One call for each of the numbers from 0 on has these answers. */
    final void answersEach(long[] wants, Calls scene, Calls.Numbered question) {
        Designer x = scene.made();
        for (int i = 0; i < wants.length; i++) {
            int number = i;
            same(i + ": " + wants[i], i + ": " + Calls.outcome(x, y -> question.of(y, number)));
        }
    }

    /** Each call throws this very class, so that none of the machine's own passes for it, and changes nothing. */
    final void refuses(Class<? extends RuntimeException> due, Calls scene, Calls.Question... calls) {
        Calls tried = scene;
        for (Calls.Question call : calls) {
            throwsThis(due, scene, call);
            tried = tried.thenTry(call);
        }
        same(State.of(scene), State.of(tried));
    }

    /** A call throws this very class; what it changes is not asked. */
    final void throwsThis(Class<? extends RuntimeException> due, Calls scene, Calls.Question call) {
        same(due.getName(), Calls.outcome(scene.made(), call));
    }

    /** The least and the greatest number are taken; one less, one more and strange ones are refused. */
    final void takesOnly(int least, int greatest, Class<? extends RuntimeException> due, Calls scene,
            Calls.Numbered call) {
        for (int end : new int[] {least, greatest}) {
            String got = Calls.outcome(scene.made(), x -> call.of(x, end));
            same(end + " is taken", end + (got.contains("Exception") ? " threw " + got : " is taken"));
        }
        Calls tried = scene;
        for (int strange : strangeNumbers(least, greatest)) {
            if (strange < least || strange > greatest) {
                String got = Calls.outcome(scene.made(), x -> call.of(x, strange));
                same(strange + ": " + due.getName(), strange + ": " + got);
                tried = tried.thenTry(x -> call.of(x, strange));
            }
        }
        same(State.of(scene), State.of(tried));
    }

    /** Numbers beside the ends, far ones, and some that a cast to a byte or a short would take for right ones. */
    private static int[] strangeNumbers(int least, int greatest) {
        int[] numbers = new int[2 * BESIDE + 2 * STRANGE.length];
        for (int i = 0; i < BESIDE; i++) {
            numbers[2 * i] = least - 1 - i;
            numbers[2 * i + 1] = greatest + 1 + i;
        }
        for (int i = 0; i < STRANGE.length; i++) {
            numbers[2 * BESIDE + 2 * i] = STRANGE[i];
            numbers[2 * BESIDE + 2 * i + 1] = STRANGE[i] + least;
        }
        return numbers;
    }

    /** A glyph's number is taken if there is such a glyph: none of none, some, all 24, all but one that was undone. */
    final void needsGlyph(Calls.Numbered call) {
        refuses(INDEX, NEW, x -> call.of(x, 0));
        refuses(INDEX, glyphs(1).thenTry(Designer::undo), x -> call.of(x, 0));
        refuses(INDEX, FURNISHED, x -> call.of(x, 3));
        takesOnly(0, 23, INDEX, FULL, call);
    }

    /** The line of a test from which something was thrown. */
    private static String place(Throwable thrown) {
        for (StackTraceElement frame : thrown.getStackTrace()) {
            if (frame.getClassName().matches("\\w+Sentences")) {
                return " (" + frame.getFileName() + ":" + frame.getLineNumber() + ")";
            }
        }
        return "";
    }

    // ---- scenes ----

    static Calls glyphs(int count) {
        return x -> {
            for (int i = 0; i < count; i++) {
                x.addGlyph('A' + i);
            }
        };
    }

    static Calls typed(String text) {
        return x -> {
            for (int i = 0; i < text.length(); i++) {
                x.append(text.charAt(i));
            }
        };
    }

    static Calls proof(String text) {
        return typed(text).then(Designer::takeProof);
    }

    static Calls read(String text) {
        return typed(text).then(Designer::readGlyph);
    }

    static int bit(boolean answer) {
        return answer ? 1 : 0;
    }

    static long[] numbers(long... numbers) {
        return numbers;
    }
}
