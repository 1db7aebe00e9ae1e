/**
 * A TypeDesigner whose calls are counted: what it answers after its 512th call is free, so that no test may ask for it.
 * Calls without an answer answer 0 here.
 */
final class Designer {
    private static final int MOST_CALLS = 512;

    private final TypeDesigner object = new TypeDesigner();
    private int calls = 0;

    int calls() {
        return calls;
    }

    private TypeDesigner next() {
        calls++;
        if (calls > MOST_CALLS) {
            throw new AssertionError("a test makes more than 512 calls on an object");
        }
        return object;
    }

    int addGlyph(int code) {
        return next().addGlyph(code);
    }

    int addContour(int glyph, int x, int y, int width, int height) {
        return next().addContour(glyph, x, y, width, height);
    }

    int movePoint(int glyph, int contour, int point, int dx, int dy) {
        return next().movePoint(glyph, contour, point, dx, dy);
    }

    int shift(int glyph, int dx, int dy) {
        return next().shift(glyph, dx, dy);
    }

    int glyph(int glyph, int what) {
        return next().glyph(glyph, what);
    }

    int find(int code) {
        return next().find(code);
    }

    int points(int glyph, int contour) {
        return next().points(glyph, contour);
    }

    int point(int glyph, int contour, int point, boolean isY) {
        return next().point(glyph, contour, point, isY);
    }

    int area(int glyph, int contour) {
        return next().area(glyph, contour);
    }

    int setSide(int glyph, int side, int bearing) {
        return next().setSide(glyph, side, bearing);
    }

    int follow(int glyph, int side, int other, int otherSide, int difference) {
        return next().follow(glyph, side, other, otherSide, difference);
    }

    int side(int glyph, int side, int what) {
        return next().side(glyph, side, what);
    }

    int followers(int glyph, int side) {
        return next().followers(glyph, side);
    }

    int setClass(int glyph, boolean isFirst, int which) {
        return next().setClass(glyph, isFirst, which);
    }

    int kernClasses(int first, int second, int kern) {
        return next().kernClasses(first, second, kern);
    }

    int kernPair(int first, int second, int kern) {
        return next().kernPair(first, second, kern);
    }

    int dropKern(boolean isPair, int first, int second) {
        return next().dropKern(isPair, first, second);
    }

    int kern(int first, int second) {
        return next().kern(first, second);
    }

    int why(int first, int second) {
        return next().why(first, second);
    }

    int addStem(int glyph, int from, int to) {
        return next().addStem(glyph, from, to);
    }

    int removeStem(int glyph, int stem) {
        return next().removeStem(glyph, stem);
    }

    int stem(int glyph, int stem, boolean isRight) {
        return next().stem(glyph, stem, isRight);
    }

    int place(int glyph, int size, int x) {
        return next().place(glyph, size, x);
    }

    boolean isBlack(int glyph, int size, int column, int row) {
        return next().isBlack(glyph, size, column, row);
    }

    int blackPixels(int glyph, int size) {
        return next().blackPixels(glyph, size);
    }

    int setProof(int tracking, int space) {
        return next().setProof(tracking, space);
    }

    int append(char c) {
        next().append(c);
        return 0;
    }

    int takeProof() {
        return next().takeProof();
    }

    int proofWidth() {
        return next().proofWidth();
    }

    int position(int index) {
        return next().position(index);
    }

    int lines(int measure) {
        return next().lines(measure);
    }

    int line(int measure, int line, int what) {
        return next().line(measure, line, what);
    }

    int leastMeasure(int lines) {
        return next().leastMeasure(lines);
    }

    double meanAdvance() {
        return next().meanAdvance();
    }

    int account(int what) {
        return next().account(what);
    }

    int readGlyph() {
        return next().readGlyph();
    }

    int faultPosition() {
        return next().faultPosition();
    }

    int undo() {
        return next().undo();
    }

    int save() {
        next().save();
        return 0;
    }

    int restore() {
        next().restore();
        return 0;
    }
}
