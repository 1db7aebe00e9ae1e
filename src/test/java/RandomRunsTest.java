import java.util.Random;
import java.util.function.Supplier;

/** Random runs of up to 512 calls, the same ones each time, whose answers have to be those of ReferenceDesign. */
public final class RandomRunsTest {
    /** No step makes more calls than are left to 512 then: the longest one types a text and reads it. */
    private static final int LAST_STEP = 512 - 65;
    private static final int MOST_FAULTS = 20;
    private static final int[] STRANGE = {-1, -2, 24, 25, 127, 1201, -201, 100001, Integer.MAX_VALUE,
        Integer.MIN_VALUE, Integer.MAX_VALUE - 1, 65536};

    private final Random random;
    private final Designer x = new Designer();
    private final ReferenceDesign r = new ReferenceDesign();
    /** What a run does often: 0 all, 1 outlines, 2 bearings, 3 kerns, 4 stems, 5 proofs, 6 texts. */
    private final int theme;
    private final int wantedGlyphs;
    private final int strangeness;
    private int faults = 0;
    private String calls = "";

    private RandomRunsTest(long seed) {
        random = new Random(seed);
        theme = (int) (seed % 7);
        wantedGlyphs = new int[] {1, 2, 3, 6, 24, 24}[random.nextInt(6)];
        strangeness = new int[] {0, 30, 100}[random.nextInt(3)];
    }

    public static void main(String[] args) {
        int runs = args.length > 0 ? Integer.parseInt(args[0]) : 700;
        int faults = 0;
        for (int run = 0; run < runs && faults < MOST_FAULTS; run++) {
            faults += new RandomRunsTest(run).runAll(run);
        }
        System.out.println(runs + " runs, " + faults + " wrong answers");
        if (faults != 0) {
            System.exit(1);
        }
    }

    private int runAll(int run) {
        while (x.calls() < LAST_STEP && faults == 0) {
            makeCall();
        }
        if (faults != 0) {
            System.out.println("in run " + run + ": " + calls);
        }
        return faults;
    }

    private static String outcome(Supplier<Object> call) {
        try {
            return String.valueOf(call.get());
        } catch (RuntimeException e) {
            return e.getClass().getName();
        }
    }

    private void both(String name, Supplier<Object> program, Supplier<Object> reference) {
        String got = outcome(program);
        String want = outcome(reference);
        calls = calls.length() > 3000 ? calls.substring(1000) : calls;
        calls += name + " -> " + want + "; ";
        if (!got.equals(want)) {
            faults++;
            System.out.println(name + " answered " + got + ", due is " + want);
        }
    }

    // ---- arguments ----

    private boolean isStrange() {
        return strangeness > 0 && random.nextInt(strangeness) == 0;
    }

    private int pick(int from, int to) {
        if (isStrange()) {
            return STRANGE[random.nextInt(STRANGE.length)];
        }
        int kind = random.nextInt(12);
        return kind == 0 ? from : kind == 1 ? to : from + random.nextInt(to - from + 1);
    }

    private int glyphNumber() {
        return pick(0, Math.max(0, r.account(0) - 1));
    }

    private int contourOf(int glyph) {
        return glyph >= 0 && glyph < r.account(0) ? pick(0, Math.max(0, r.glyph(glyph, 1) - 1)) : 0;
    }

    private int pointOf(int glyph, int contour) {
        return glyph >= 0 && glyph < r.account(0) && contour >= 0 && contour < r.glyph(glyph, 1)
                ? pick(0, r.points(glyph, contour) - 1) : 0;
    }

    private int stemOf(int glyph) {
        return glyph >= 0 && glyph < r.account(0) ? pick(0, Math.max(0, r.glyph(glyph, 8) - 1)) : 0;
    }

    private int smallStep() {
        return random.nextBoolean() ? pick(-20, 20) : pick(-1400, 1400);
    }

    // ---- calls ----

    private void makeCall() {
        if (r.account(0) < wantedGlyphs && random.nextInt(4) == 0) {
            int code = 33 + random.nextInt(94);
            both("addGlyph(" + code + ")", () -> x.addGlyph(code), () -> r.addGlyph(code));
            return;
        }
        switch (random.nextInt(3) == 0 ? random.nextInt(7) : theme) {
            case 1: outlineCall(); break;
            case 2: bearingCall(); break;
            case 3: kernCall(); break;
            case 4: stemCall(); break;
            case 5: proofCall(); break;
            case 6: textCall(); break;
            default: designCall(); break;
        }
    }

    private void outlineCall() {
        int g = glyphNumber();
        int contour = contourOf(g);
        int point = pointOf(g, contour);
        int dx = smallStep();
        int dy = smallStep();
        int what = pick(0, 9);
        boolean isY = random.nextBoolean();
        String of = "(" + g + ", " + contour + ", " + point + ", ";
        switch (random.nextInt(9)) {
            case 0: case 1: {
                int left = pick(-200, 900);
                int low = pick(-200, 900);
                int width = pick(1, 1200 - Math.min(900, Math.max(-200, left)));
                int height = pick(1, 1200 - Math.min(900, Math.max(-200, low)));
                both("addContour(" + g + ", " + left + ", " + low + ", " + width + ", " + height + ")",
                        () -> x.addContour(g, left, low, width, height),
                        () -> r.addContour(g, left, low, width, height));
                break;
            }
            case 2: case 3:
                both("movePoint" + of + dx + ", " + dy + ")", () -> x.movePoint(g, contour, point, dx, dy),
                        () -> r.movePoint(g, contour, point, dx, dy));
                break;
            case 4:
                both("shift(" + g + ", " + dx + ", " + dy + ")", () -> x.shift(g, dx, dy), () -> r.shift(g, dx, dy));
                break;
            case 5:
                both("glyph(" + g + ", " + what + ")", () -> x.glyph(g, what), () -> r.glyph(g, what));
                break;
            case 6:
                both("points(" + g + ", " + contour + ")", () -> x.points(g, contour), () -> r.points(g, contour));
                both("area(" + g + ", " + contour + ")", () -> x.area(g, contour), () -> r.area(g, contour));
                break;
            case 7:
                both("point" + of + isY + ")", () -> x.point(g, contour, point, isY),
                        () -> r.point(g, contour, point, isY));
                break;
            default: pixelCall(g); break;
        }
    }

    private void pixelCall(int g) {
        int size = pick(6, random.nextBoolean() ? 24 : 60);
        int column = random.nextBoolean() ? pick(-2, 20) : pick(-100, 100);
        int row = random.nextBoolean() ? pick(-2, 20) : pick(-100, 100);
        if (random.nextInt(3) == 0) {
            both("blackPixels(" + g + ", " + size + ")", () -> x.blackPixels(g, size), () -> r.blackPixels(g, size));
        } else {
            both("isBlack(" + g + ", " + size + ", " + column + ", " + row + ")", () -> x.isBlack(g, size, column, row),
                    () -> r.isBlack(g, size, column, row));
        }
    }

    private void bearingCall() {
        int g = glyphNumber();
        int side = pick(0, 1);
        int other = glyphNumber();
        int otherSide = pick(0, 1);
        int bearing = pick(-200, 400);
        int difference = pick(-200, 200);
        int what = pick(0, 3);
        switch (random.nextInt(7)) {
            case 0:
                both("setSide(" + g + ", " + side + ", " + bearing + ")", () -> x.setSide(g, side, bearing),
                        () -> r.setSide(g, side, bearing));
                break;
            case 1: case 2: case 3:
                both("follow(" + g + ", " + side + ", " + other + ", " + otherSide + ", " + difference + ")",
                        () -> x.follow(g, side, other, otherSide, difference),
                        () -> r.follow(g, side, other, otherSide, difference));
                break;
            case 4: case 5:
                both("side(" + g + ", " + side + ", " + what + ")", () -> x.side(g, side, what),
                        () -> r.side(g, side, what));
                break;
            default:
                both("followers(" + g + ", " + side + ")", () -> x.followers(g, side), () -> r.followers(g, side));
                break;
        }
    }

    private void kernCall() {
        int g = glyphNumber();
        int h = glyphNumber();
        boolean isFirst = random.nextBoolean();
        int which = pick(-1, 5);
        int first = pick(0, 5);
        int second = pick(0, 5);
        int kern = random.nextInt(6) == 0 ? 0 : pick(-300, 300);
        switch (random.nextInt(9)) {
            case 0: case 1:
                both("setClass(" + g + ", " + isFirst + ", " + which + ")", () -> x.setClass(g, isFirst, which),
                        () -> r.setClass(g, isFirst, which));
                break;
            case 2:
                both("kernClasses(" + first + ", " + second + ", " + kern + ")",
                        () -> x.kernClasses(first, second, kern),
                        () -> r.kernClasses(first, second, kern));
                break;
            case 3: case 4:
                both("kernPair(" + g + ", " + h + ", " + kern + ")", () -> x.kernPair(g, h, kern),
                        () -> r.kernPair(g, h, kern));
                break;
            case 5: {
                int one = isFirst ? g : first;
                int two = isFirst ? h : second;
                both("dropKern(" + isFirst + ", " + one + ", " + two + ")", () -> x.dropKern(isFirst, one, two),
                        () -> r.dropKern(isFirst, one, two));
                break;
            }
            case 6:
                both("kern(" + g + ", " + h + ")", () -> x.kern(g, h), () -> r.kern(g, h));
                break;
            default:
                both("why(" + g + ", " + h + ")", () -> x.why(g, h), () -> r.why(g, h));
                break;
        }
    }

    private void stemCall() {
        int g = glyphNumber();
        int from = pick(-200, 1200);
        int to = isStrange() ? smallStep() : from + (random.nextBoolean() ? pick(1, 30) : pick(1, 300));
        int stem = stemOf(g);
        boolean isRight = random.nextBoolean();
        int size = random.nextBoolean() ? pick(6, 20) : pick(6, 60);
        int where = nearStem(g, stem);
        switch (random.nextInt(9)) {
            case 0: case 1: case 2:
                both("addStem(" + g + ", " + from + ", " + to + ")", () -> x.addStem(g, from, to),
                        () -> r.addStem(g, from, to));
                break;
            case 3:
                both("removeStem(" + g + ", " + stem + ")", () -> x.removeStem(g, stem), () -> r.removeStem(g, stem));
                break;
            case 4:
                both("stem(" + g + ", " + stem + ", " + isRight + ")", () -> x.stem(g, stem, isRight),
                        () -> r.stem(g, stem, isRight));
                break;
            default:
                both("place(" + g + ", " + size + ", " + where + ")", () -> x.place(g, size, where),
                        () -> r.place(g, size, where));
                break;
        }
    }

    private int nearStem(int g, int stem) {
        boolean isKnown = g >= 0 && g < r.account(0) && stem >= 0 && stem < r.glyph(g, 8);
        return isKnown && random.nextInt(3) > 0 ? r.stem(g, stem, random.nextBoolean()) + random.nextInt(5) - 2
                : pick(-1000, 2000);
    }

    /** The 61st character is refused; those behind the 62nd would take calls for nothing. */
    private void type(String text) {
        for (int i = 0; i < Math.min(text.length(), 62); i++) {
            char c = text.charAt(i);
            both("append(" + (int) c + ")", () -> x.append(c),
                    () -> { r.append(c); return 0; });
        }
    }

    private void proofCall() {
        int measure = random.nextInt(3) == 0 ? pick(1, 100000) : pick(1, 5000);
        int line = pick(0, 3);
        int what = pick(0, 2);
        int tracking = pick(-100, 200);
        int space = pick(50, 1000);
        int index = pick(0, 12);
        int most = random.nextBoolean() ? pick(1, 3) : pick(1, 60);
        switch (random.nextInt(10)) {
            case 0: case 1:
                type(proofText());
                both("takeProof()", () -> x.takeProof(), () -> r.takeProof());
                break;
            case 2:
                both("setProof(" + tracking + ", " + space + ")", () -> x.setProof(tracking, space),
                        () -> r.setProof(tracking, space));
                break;
            case 3: both("proofWidth()", () -> x.proofWidth(), () -> r.proofWidth()); break;
            case 4: both("position(" + index + ")", () -> x.position(index), () -> r.position(index)); break;
            case 5: both("lines(" + measure + ")", () -> x.lines(measure), () -> r.lines(measure)); break;
            case 6: case 7:
                both("line(" + measure + ", " + line + ", " + what + ")", () -> x.line(measure, line, what),
                        () -> r.line(measure, line, what));
                break;
            default:
                both("leastMeasure(" + most + ")", () -> x.leastMeasure(most), () -> r.leastMeasure(most));
                break;
        }
    }

    private String proofText() {
        StringBuilder text = new StringBuilder();
        int length = random.nextInt(3) == 0 ? random.nextInt(62) : random.nextInt(14);
        int spaces = 1 + random.nextInt(5);
        for (int i = 0; i < length; i++) {
            boolean isSpace = r.account(0) == 0 || random.nextInt(spaces) == 0;
            text.append(isSpace ? ' ' : (char) r.glyph(random.nextInt(r.account(0)), 0));
        }
        return isStrange() ? text.append((char) pick(0, 300)).toString() : text.toString();
    }

    private void textCall() {
        if (random.nextInt(4) == 0) {
            designCall();
            return;
        }
        StringBuilder text = new StringBuilder(glyphText());
        if (random.nextInt(3) == 0 && text.length() > 0) {
            int at = random.nextInt(text.length());
            String signs = "()-, 0123456789Ab\t\u0100";
            char sign = signs.charAt(random.nextInt(signs.length()));
            switch (random.nextInt(4)) {
                case 0: text.setLength(at); break;
                case 1: text.insert(at, sign); break;
                case 2: text.deleteCharAt(at); break;
                default: text.setCharAt(at, sign); break;
            }
        }
        type(text.toString());
        both("readGlyph()", () -> x.readGlyph(), () -> r.readGlyph());
        both("faultPosition()", () -> x.faultPosition(), () -> r.faultPosition());
    }

    private String glyphText() {
        boolean isKnown = r.account(0) > 0 && random.nextBoolean();
        StringBuilder text = new StringBuilder();
        text.append(isKnown ? (char) r.glyph(random.nextInt(r.account(0)), 0) : (char) (33 + random.nextInt(94)));
        int digits = 1 + random.nextInt(4);
        int contours = random.nextInt(3) == 0 ? 1 + random.nextInt(4) : 1;
        for (int contour = 0; contour < contours; contour++) {
            int points = contours > 1 || random.nextBoolean() ? 3 : 3 + random.nextInt(11);
            for (int point = 0; point < points; point++) {
                text.append(point == 0 ? '(' : ' ').append(number(digits)).append(',').append(number(digits));
            }
            text.append(')');
        }
        return text.toString();
    }

    private String number(int digits) {
        int most = new int[] {9, 99, 999, 1200}[digits - 1];
        int value = random.nextInt(60) == 0 ? random.nextInt(10000) : random.nextInt(most + 1);
        return (random.nextInt(10) == 0 && value <= 205 ? "-" : "") + value;
    }

    private void designCall() {
        int g = glyphNumber();
        int what = pick(0, 9);
        int account = pick(0, 8);
        int code = pick(33, 126);
        switch (random.nextInt(14)) {
            case 0: both("undo()", () -> x.undo(), () -> r.undo()); break;
            case 1:
                for (int i = random.nextInt(10); i >= 0; i--) {
                    both("undo()", () -> x.undo(), () -> r.undo());
                }
                break;
            case 2: both("save()", () -> x.save(), () -> { r.save(); return 0; }); break;
            case 3:
                if (random.nextInt(4) == 0) {
                    both("restore()", () -> x.restore(), () -> { r.restore(); return 0; });
                }
                break;
            case 4: case 5: case 6: case 7:
                both("account(" + account + ")", () -> x.account(account), () -> r.account(account));
                break;
            case 8: both("meanAdvance()", () -> x.meanAdvance(), () -> r.meanAdvance()); break;
            case 9: both("find(" + code + ")", () -> x.find(code), () -> r.find(code)); break;
            case 10: both("addGlyph(" + code + ")", () -> x.addGlyph(code), () -> r.addGlyph(code)); break;
            case 11: both("faultPosition()", () -> x.faultPosition(), () -> r.faultPosition()); break;
            default: both("glyph(" + g + ", " + what + ")", () -> x.glyph(g, what), () -> r.glyph(g, what)); break;
        }
    }
}
