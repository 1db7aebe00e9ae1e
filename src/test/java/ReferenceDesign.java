import java.math.BigDecimal;
import java.math.BigInteger;
import java.math.RoundingMode;
import java.util.ArrayDeque;
import java.util.ArrayList;
import java.util.Deque;
import java.util.HashMap;
import java.util.List;
import java.util.Map;
import java.util.NoSuchElementException;
import java.util.TreeMap;
import java.util.TreeSet;
import java.util.regex.Matcher;
import java.util.regex.Pattern;

/** The document once more, written with lists, maps, patterns and exact fractions, to compare the program with. */
final class ReferenceDesign {
    private static final class Glyph {
        int code;
        List<List<int[]>> contours = new ArrayList<>();
        int[] told = {50, 50};
        /** For each side null or glyph, side and difference. */
        int[][] rules = new int[2][];
        int firstClass = -1;
        int secondClass = -1;
        TreeMap<Integer, Integer> stems = new TreeMap<>();

        Glyph copy() {
            Glyph g = new Glyph();
            g.code = code;
            for (List<int[]> contour : contours) {
                List<int[]> points = new ArrayList<>();
                for (int[] p : contour) {
                    points.add(p.clone());
                }
                g.contours.add(points);
            }
            g.told = told.clone();
            g.rules = rules.clone();
            g.firstClass = firstClass;
            g.secondClass = secondClass;
            g.stems = new TreeMap<>(stems);
            return g;
        }

        List<int[]> allPoints() {
            List<int[]> all = new ArrayList<>();
            contours.forEach(all::addAll);
            return all;
        }
    }

    private static final class State {
        List<Glyph> glyphs = new ArrayList<>();
        Map<List<Integer>, Integer> classKerns = new HashMap<>();
        Map<List<Integer>, Integer> pairKerns = new HashMap<>();
        int tracking = 0;
        int space = 250;

        State copy() {
            State s = new State();
            glyphs.forEach(g -> s.glyphs.add(g.copy()));
            s.classKerns.putAll(classKerns);
            s.pairKerns.putAll(pairKerns);
            s.tracking = tracking;
            s.space = space;
            return s;
        }
    }

    private static final String COORDINATE = "-?(?:0|[1-9][0-9]{0,3})";
    private static final String POINT = COORDINATE + "," + COORDINATE;
    private static final Pattern TEXT =
            Pattern.compile("[!-~](?:\\(" + POINT + "(?: " + POINT + "){2,}\\))+", Pattern.DOTALL);

    private State state = new State();
    private State saved = null;
    private final Deque<State> kept = new ArrayDeque<>();
    private String text = "";
    private String proof = "";
    private int fault = -1;

    private static void index(boolean isGood) {
        if (!isGood) {
            throw new IndexOutOfBoundsException();
        }
    }

    private static void argument(boolean isGood) {
        if (!isGood) {
            throw new IllegalArgumentException();
        }
    }

    private static void state(boolean isGood) {
        if (!isGood) {
            throw new IllegalStateException();
        }
    }

    private static void exists(boolean isGood) {
        if (!isGood) {
            throw new NoSuchElementException();
        }
    }

    private static boolean in(BigInteger v, int from, int to) {
        return v.compareTo(BigInteger.valueOf(from)) >= 0 && v.compareTo(BigInteger.valueOf(to)) <= 0;
    }

    private static boolean in(int v, int from, int to) {
        return in(BigInteger.valueOf(v), from, to);
    }

    private static BigInteger sum(int a, int b) {
        return BigInteger.valueOf(a).add(BigInteger.valueOf(b));
    }

    private static boolean isCoordinate(BigInteger v) {
        return in(v, -200, 1200);
    }

    private Glyph at(int glyph) {
        index(glyph >= 0 && glyph < state.glyphs.size());
        return state.glyphs.get(glyph);
    }

    private List<int[]> at(int glyph, int contour) {
        Glyph g = at(glyph);
        index(contour >= 0 && contour < g.contours.size());
        return g.contours.get(contour);
    }

    private int[] at(int glyph, int contour, int point) {
        List<int[]> points = at(glyph, contour);
        index(point >= 0 && point < points.size());
        return points.get(point);
    }

    private void change() {
        kept.addLast(state.copy());
        if (kept.size() > 8) {
            kept.removeFirst();
        }
    }

    private int numberOf(int code) {
        for (int i = 0; i < state.glyphs.size(); i++) {
            if (state.glyphs.get(i).code == code) {
                return i;
            }
        }
        return -1;
    }

    int addGlyph(int code) {
        argument(in(code, 33, 126));
        state(state.glyphs.size() < 24 && numberOf(code) < 0);
        change();
        Glyph g = new Glyph();
        g.code = code;
        state.glyphs.add(g);
        return state.glyphs.size() - 1;
    }

    int addContour(int glyph, int x, int y, int width, int height) {
        Glyph g = at(glyph);
        argument(width >= 1 && height >= 1);
        for (BigInteger v : List.of(sum(x, 0), sum(y, 0), sum(x, width), sum(y, height))) {
            argument(isCoordinate(v));
        }
        state(g.contours.size() < 3);
        change();
        List<int[]> box = new ArrayList<>();
        for (int[] p : new int[][] {{x, y}, {x + width, y}, {x + width, y + height}, {x, y + height}}) {
            box.add(p);
        }
        g.contours.add(box);
        return g.contours.size() - 1;
    }

    int movePoint(int glyph, int contour, int point, int dx, int dy) {
        int[] p = at(glyph, contour, point);
        argument(isCoordinate(sum(p[0], dx)) && isCoordinate(sum(p[1], dy)));
        change();
        p[0] += dx;
        p[1] += dy;
        return p[0];
    }

    int shift(int glyph, int dx, int dy) {
        Glyph g = at(glyph);
        for (int[] p : g.allPoints()) {
            argument(isCoordinate(sum(p[0], dx)) && isCoordinate(sum(p[1], dy)));
        }
        change();
        for (int[] p : g.allPoints()) {
            p[0] += dx;
            p[1] += dy;
        }
        return edge(g, false);
    }

    private static int edge(Glyph g, boolean isRight) {
        TreeSet<Integer> xs = new TreeSet<>();
        g.allPoints().forEach(p -> xs.add(p[0]));
        return xs.isEmpty() ? 0 : isRight ? xs.last() : xs.first();
    }

    private int advance(int glyph) {
        Glyph g = state.glyphs.get(glyph);
        return bearing(glyph, 0) + bearing(glyph, 1) + edge(g, true) - edge(g, false);
    }

    private static int twiceArea(List<int[]> points) {
        int sum = 0;
        int[] before = points.get(points.size() - 1);
        for (int[] p : points) {
            sum += before[0] * p[1] - p[0] * before[1];
            before = p;
        }
        return sum;
    }

    int glyph(int glyph, int what) {
        Glyph g = at(glyph);
        argument(in(what, 0, 9));
        return List.of(g.code, g.contours.size(), g.allPoints().size(), edge(g, false), edge(g, true), advance(glyph),
                g.firstClass, g.secondClass, g.stems.size(),
                g.contours.stream().mapToInt(ReferenceDesign::twiceArea).sum()).get(what);
    }

    int find(int code) {
        exists(numberOf(code) >= 0);
        return numberOf(code);
    }

    int points(int glyph, int contour) {
        return at(glyph, contour).size();
    }

    int point(int glyph, int contour, int point, boolean isY) {
        return at(glyph, contour, point)[isY ? 1 : 0];
    }

    int area(int glyph, int contour) {
        return twiceArea(at(glyph, contour));
    }

    private void checkSide(int glyph, int side) {
        at(glyph);
        index(side == 0 || side == 1);
    }

    private int bearing(int glyph, int side) {
        int[] rule = state.glyphs.get(glyph).rules[side];
        return rule == null ? state.glyphs.get(glyph).told[side] : bearing(rule[0], rule[1]) + rule[2];
    }

    private int depth(int glyph, int side) {
        int[] rule = state.glyphs.get(glyph).rules[side];
        return rule == null ? 0 : 1 + depth(rule[0], rule[1]);
    }

    private boolean depends(int glyph, int side, int onGlyph, int onSide) {
        int[] rule = state.glyphs.get(glyph).rules[side];
        return rule != null && (rule[0] == onGlyph && rule[1] == onSide || depends(rule[0], rule[1], onGlyph, onSide));
    }

    int setSide(int glyph, int side, int bearing) {
        checkSide(glyph, side);
        argument(in(bearing, -200, 400));
        int before = bearing(glyph, side);
        change();
        state.glyphs.get(glyph).rules[side] = null;
        state.glyphs.get(glyph).told[side] = bearing;
        return before;
    }

    int follow(int glyph, int side, int other, int otherSide, int difference) {
        checkSide(glyph, side);
        checkSide(other, otherSide);
        argument(in(difference, -200, 200));
        if (glyph == other && side == otherSide || depends(other, otherSide, glyph, side)) {
            throw new UnsupportedOperationException();
        }
        change();
        state.glyphs.get(glyph).rules[side] = new int[] {other, otherSide, difference};
        return bearing(glyph, side);
    }

    int side(int glyph, int side, int what) {
        checkSide(glyph, side);
        argument(in(what, 0, 3));
        int[] rule = state.glyphs.get(glyph).rules[side];
        return List.of(bearing(glyph, side), rule == null ? -1 : rule[0], rule == null ? -1 : rule[1],
                depth(glyph, side)).get(what);
    }

    int followers(int glyph, int side) {
        checkSide(glyph, side);
        int count = 0;
        for (int g = 0; g < state.glyphs.size(); g++) {
            for (int s = 0; s < 2; s++) {
                count += depends(g, s, glyph, side) ? 1 : 0;
            }
        }
        return count;
    }

    int setClass(int glyph, boolean isFirst, int which) {
        Glyph g = at(glyph);
        argument(in(which, -1, 5));
        change();
        int before = isFirst ? g.firstClass : g.secondClass;
        if (isFirst) {
            g.firstClass = which;
        } else {
            g.secondClass = which;
        }
        return before;
    }

    int kernClasses(int first, int second, int kern) {
        index(in(first, 0, 5) && in(second, 0, 5));
        argument(in(kern, -300, 300));
        change();
        state.classKerns.put(List.of(first, second), kern);
        return state.classKerns.size();
    }

    int kernPair(int first, int second, int kern) {
        at(first);
        at(second);
        argument(in(kern, -300, 300));
        state(state.pairKerns.size() < 40 || state.pairKerns.containsKey(List.of(first, second)));
        change();
        state.pairKerns.put(List.of(first, second), kern);
        return state.pairKerns.size();
    }

    int dropKern(boolean isPair, int first, int second) {
        exists((isPair ? state.pairKerns : state.classKerns).containsKey(List.of(first, second)));
        change();
        return (isPair ? state.pairKerns : state.classKerns).remove(List.of(first, second));
    }

    private Integer classKern(int first, int second) {
        return state.classKerns.get(List.of(at(first).firstClass, at(second).secondClass));
    }

    int kern(int first, int second) {
        at(first);
        at(second);
        Integer forClasses = classKern(first, second);
        return state.pairKerns.getOrDefault(List.of(first, second), forClasses == null ? 0 : forClasses);
    }

    int why(int first, int second) {
        at(first);
        at(second);
        boolean isPair = state.pairKerns.containsKey(List.of(first, second));
        boolean isClasses = classKern(first, second) != null;
        return isPair && isClasses ? 3 : isPair ? 2 : isClasses ? 1 : 0;
    }

    int addStem(int glyph, int from, int to) {
        Glyph g = at(glyph);
        argument(in(from, -200, 1200) && in(to, -200, 1200) && from < to);
        state(g.stems.size() < 4);
        g.stems.forEach((left, right) -> state(to < left || right < from));
        change();
        g.stems.put(from, to);
        return g.stems.headMap(from).size();
    }

    private int[] stemAt(int glyph, int stem) {
        Glyph g = at(glyph);
        index(stem >= 0 && stem < g.stems.size());
        int left = new ArrayList<>(g.stems.keySet()).get(stem);
        return new int[] {left, g.stems.get(left)};
    }

    int removeStem(int glyph, int stem) {
        int[] ends = stemAt(glyph, stem);
        change();
        state.glyphs.get(glyph).stems.remove(ends[0]);
        return ends[1] - ends[0];
    }

    int stem(int glyph, int stem, boolean isRight) {
        return stemAt(glyph, stem)[isRight ? 1 : 0];
    }

    private static int round(int x, int size) {
        return BigDecimal.valueOf(x).multiply(BigDecimal.valueOf(size)).movePointLeft(3)
                .add(new BigDecimal("0.5")).setScale(0, RoundingMode.FLOOR).intValueExact();
    }

    int place(int glyph, int size, int x) {
        Glyph g = at(glyph);
        argument(in(size, 6, 60) && in(x, -1000, 2000));
        return place(g, size, x);
    }

    private static int place(Glyph g, int size, int x) {
        if (g.stems.containsKey(x)) {
            Integer before = g.stems.lowerKey(x);
            int place = round(x, size);
            return before == null ? place : Math.max(place, place(g, size, g.stems.get(before)) + 1);
        }
        TreeMap<Integer, Integer> lefts = new TreeMap<>();
        g.stems.forEach((left, right) -> lefts.put(right, left));
        if (lefts.containsKey(x)) {
            return place(g, size, lefts.get(x)) + Math.max(1, round(x - lefts.get(x), size));
        }
        TreeSet<Integer> ends = new TreeSet<>(g.stems.keySet());
        ends.addAll(g.stems.values());
        Integer end = ends.lower(x);
        return round(x, size) + (end == null ? 0 : place(g, size, end) - round(end, size));
    }

    boolean isBlack(int glyph, int size, int column, int row) {
        Glyph g = at(glyph);
        argument(in(size, 6, 60) && in(column, -100, 100) && in(row, -100, 100));
        return isBlack(g, size, column, row);
    }

    /** Whether a / b is greater than c / d, for b and d greater than 0. */
    private static boolean isGreater(long a, long b, long c, long d) {
        return BigInteger.valueOf(a).multiply(BigInteger.valueOf(d))
                .compareTo(BigInteger.valueOf(c).multiply(BigInteger.valueOf(b))) > 0;
    }

    private static boolean isBlack(Glyph g, int size, int column, int row) {
        long mx = (2 * column + 1) * 500;
        long my = (2 * row + 1) * 500;
        int crossed = 0;
        for (List<int[]> contour : g.contours) {
            for (int i = 0; i < contour.size(); i++) {
                int[] p = contour.get(i);
                int[] q = contour.get((i + 1) % contour.size());
                boolean up = !isGreater(p[1], 1, my, size) && isGreater(q[1], 1, my, size);
                boolean down = !isGreater(q[1], 1, my, size) && isGreater(p[1], 1, my, size);
                if (up || down) {
                    // x + (my / size - y) * (u - x) / (v - y), with a divisor greater than 0.
                    long dy = q[1] - p[1];
                    long over = p[0] * dy * size + (my - (long) p[1] * size) * (q[0] - p[0]);
                    long under = dy * size;
                    if (under < 0) {
                        over = -over;
                        under = -under;
                    }
                    crossed += isGreater(over, under, mx, size) ? 1 : 0;
                }
            }
        }
        return crossed % 2 == 1;
    }

    int blackPixels(int glyph, int size) {
        Glyph g = at(glyph);
        argument(in(size, 6, 24));
        int count = 0;
        for (int column = -5; column <= 29; column++) {
            for (int row = -5; row <= 29; row++) {
                count += isBlack(g, size, column, row) ? 1 : 0;
            }
        }
        return count;
    }

    int setProof(int tracking, int space) {
        argument(in(tracking, -100, 200) && in(space, 50, 1000));
        change();
        int before = state.space;
        state.tracking = tracking;
        state.space = space;
        return before;
    }

    void append(char c) {
        state(text.length() < 60);
        text += c;
    }

    private String takeText() {
        String taken = text;
        text = "";
        return taken;
    }

    int takeProof() {
        String taken = takeText();
        argument(taken.chars().allMatch(sign -> sign == ' ' || numberOf(sign) >= 0));
        proof = taken;
        return proof.length();
    }

    private int width(String line) {
        int width = 0;
        for (int i = 0; i < line.length(); i++) {
            width += line.charAt(i) == ' ' ? state.space : advance(numberOf(line.charAt(i)));
            if (i + 1 < line.length()) {
                width += state.tracking + kernBetween(line.charAt(i), line.charAt(i + 1));
            }
        }
        return width;
    }

    private int kernBetween(char first, char second) {
        return first == ' ' || second == ' ' ? 0 : kern(numberOf(first), numberOf(second));
    }

    int proofWidth() {
        exists(!proof.isEmpty());
        return width(proof);
    }

    int position(int index) {
        exists(index >= 0 && index < proof.length());
        int place = 0;
        for (int i = 0; i < index; i++) {
            place += width(proof.substring(i, i + 1)) + state.tracking
                    + kernBetween(proof.charAt(i), proof.charAt(i + 1));
        }
        return place;
    }

    /** Each line as its text and the index of its first character. */
    private Map<Integer, String> broken(int measure) {
        TreeMap<Integer, String> lines = new TreeMap<>();
        Matcher words = Pattern.compile("[^ ]+").matcher(proof);
        while (words.find()) {
            String joined = lines.isEmpty() ? null : lines.lastEntry().getValue() + " " + words.group();
            if (joined != null && width(joined) <= measure) {
                lines.put(lines.lastKey(), joined);
            } else {
                lines.put(words.start(), words.group());
            }
        }
        return lines;
    }

    int lines(int measure) {
        argument(in(measure, 1, 100000));
        return broken(measure).size();
    }

    int line(int measure, int line, int what) {
        argument(in(measure, 1, 100000) && in(what, 0, 2));
        Map<Integer, String> lines = broken(measure);
        exists(line >= 0 && line < lines.size());
        int start = new ArrayList<>(lines.keySet()).get(line);
        String text = lines.get(start);
        return what == 0 ? width(text) : what == 1 ? start : text.split(" ").length;
    }

    int leastMeasure(int most) {
        argument(in(most, 1, 60));
        String[] words = proof.trim().split(" +");
        TreeSet<Integer> measures = new TreeSet<>();
        measures.add(1);
        for (int from = 0; from < words.length; from++) {
            String line = words[from];
            for (int next = from + 1; next < words.length; next++) {
                line += " " + words[next];
                measures.add(width(line));
            }
        }
        for (int measure : measures) {
            if (in(measure, 1, 100000) && broken(measure).size() <= most) {
                return measure;
            }
        }
        throw new NoSuchElementException();
    }

    double meanAdvance() {
        if (state.glyphs.isEmpty()) {
            throw new ArithmeticException();
        }
        return (double) account(8) / (double) account(0);
    }

    int account(int what) {
        argument(in(what, 0, 8));
        int[] sums = new int[9];
        sums[0] = state.glyphs.size();
        sums[4] = state.classKerns.size();
        sums[5] = state.pairKerns.size();
        for (int i = 0; i < state.glyphs.size(); i++) {
            Glyph g = state.glyphs.get(i);
            sums[1] += g.contours.size();
            sums[2] += g.allPoints().size();
            sums[3] += (g.rules[0] == null ? 0 : 1) + (g.rules[1] == null ? 0 : 1);
            sums[7] += g.stems.size();
            sums[8] += advance(i);
            for (int k = 0; k < state.glyphs.size(); k++) {
                sums[6] += kern(i, k) == 0 ? 0 : 1;
            }
        }
        return sums[what];
    }

    private static int faultOf(String text) {
        for (int end = 1; end <= text.length(); end++) {
            Matcher matcher = TEXT.matcher(text.substring(0, end));
            if (!matcher.matches() && !matcher.hitEnd()) {
                return end - 1;
            }
        }
        return TEXT.matcher(text).matches() ? -1 : text.length();
    }

    int readGlyph() {
        String read = takeText();
        fault = faultOf(read);
        argument(fault == -1);
        List<List<int[]>> contours = new ArrayList<>();
        for (String part : read.substring(2, read.length() - 1).split("\\)\\(")) {
            List<int[]> points = new ArrayList<>();
            for (String point : part.split(" ")) {
                String[] xy = point.split(",");
                points.add(new int[] {Integer.parseInt(xy[0]), Integer.parseInt(xy[1])});
            }
            contours.add(points);
        }
        int glyph = numberOf(read.charAt(0));
        state(contours.size() <= 3 && (glyph >= 0 || state.glyphs.size() < 24));
        for (List<int[]> points : contours) {
            state(points.size() <= 12);
            for (int[] p : points) {
                state(in(p[0], -200, 1200) && in(p[1], -200, 1200));
            }
        }
        change();
        if (glyph < 0) {
            Glyph g = new Glyph();
            g.code = read.charAt(0);
            state.glyphs.add(g);
            glyph = state.glyphs.size() - 1;
        }
        state.glyphs.get(glyph).contours = contours;
        return glyph;
    }

    int faultPosition() {
        return fault;
    }

    int undo() {
        state(!kept.isEmpty());
        state = kept.removeLast();
        proof = "";
        return kept.size();
    }

    void save() {
        saved = state.copy();
    }

    void restore() {
        state(saved != null);
        state = saved.copy();
        kept.clear();
        proof = "";
    }
}
