import java.util.NoSuchElementException;

/** A type design: glyphs, sidebearings, kerning, stems on grids, pixels, proofs, texts and undo. */
public final class TypeDesigner {
    private static final int MAX_GLYPHS = 24;
    private static final int MIN_CODE = 33;
    private static final int MAX_CODE = 126;
    private static final int MAX_CONTOURS = 3;
    private static final int MIN_POINTS = 3;
    private static final int MAX_POINTS = 12;
    private static final int MIN_COORDINATE = -200;
    private static final int MAX_COORDINATE = 1200;
    private static final int SIDES = 2;
    private static final int FIRST_BEARING = 50;
    private static final int MIN_BEARING = -200;
    private static final int MAX_BEARING = 400;
    private static final int MAX_DIFFERENCE = 200;
    private static final int CLASSES = 6;
    private static final int MAX_KERN = 300;
    private static final int MAX_PAIR_KERNS = 40;
    private static final int MAX_STEMS = 4;
    private static final int EM = 1000;
    private static final int HALF_EM = 500;
    private static final int MIN_GRID = 6;
    private static final int MAX_GRID = 60;
    private static final int MAX_COUNTED_GRID = 24;
    private static final int FIRST_COUNTED_PIXEL = -5;
    private static final int LAST_COUNTED_PIXEL = 29;
    private static final int MAX_PIXEL = 100;
    private static final int MIN_PLACED = -1000;
    private static final int MAX_PLACED = 2000;
    private static final int MIN_TRACKING = -100;
    private static final int MAX_TRACKING = 200;
    private static final int FIRST_SPACE = 250;
    private static final int MIN_SPACE = 50;
    private static final int MAX_SPACE = 1000;
    private static final int MAX_TEXT = 60;
    private static final int MAX_MEASURE = 100000;
    private static final int MAX_LINES = 60;
    private static final int MAX_CHANGES = 8;
    private static final int NONE = -1;

    private final Design design = new Design();
    private final Design snapshot = new Design();
    private final History history = new History();
    private final TextBuffer buffer = new TextBuffer();
    private final GlyphText glyphText = new GlyphText();
    private final Proof proof = new Proof();
    private boolean hasSnapshot = false;
    private int latestFault = NONE;

    public TypeDesigner() {
    }

    // ---- glyphs ----

    public int addGlyph(int code) throws IllegalArgumentException, IllegalStateException {
        if (!isWithin(code, MIN_CODE, MAX_CODE)) {
            throw new IllegalArgumentException("the code is out of range");
        }
        if (design.outlines.isFull() || design.outlines.glyphWith(code) != NONE) {
            throw new IllegalStateException("no glyph with this code can be added");
        }
        history.remember(design);
        return design.outlines.addEmptyGlyph(code);
    }

    public int addContour(int glyph, int x, int y, int width, int height)
            throws IndexOutOfBoundsException, IllegalArgumentException, IllegalStateException {
        requireGlyph(glyph);
        if (width < 1 || height < 1) {
            throw new IllegalArgumentException("the width or the height is less than 1");
        }
        // Any int is allowed here, so the far corner is told in longs.
        requireCoordinates(x, y);
        requireCoordinates((long) x + width, (long) y + height);
        if (design.outlines.contourCount(glyph) >= MAX_CONTOURS) {
            throw new IllegalStateException("the glyph has all of its contours");
        }
        history.remember(design);
        return design.outlines.addBox(glyph, x, y, x + width, y + height);
    }

    public int movePoint(int glyph, int contour, int point, int dx, int dy)
            throws IndexOutOfBoundsException, IllegalArgumentException {
        requirePoint(glyph, contour, point);
        long x = (long) design.outlines.xOf(glyph, contour, point) + dx;
        long y = (long) design.outlines.yOf(glyph, contour, point) + dy;
        requireCoordinates(x, y);
        history.remember(design);
        design.outlines.setPoint(glyph, contour, point, (int) x, (int) y);
        return (int) x;
    }

    public int shift(int glyph, int dx, int dy) throws IndexOutOfBoundsException, IllegalArgumentException {
        requireGlyph(glyph);
        Outlines outlines = design.outlines;
        if (outlines.contourCount(glyph) > 0) {
            requireCoordinates((long) outlines.least(glyph, false) + dx, (long) outlines.least(glyph, true) + dy);
            requireCoordinates((long) outlines.greatest(glyph, false) + dx,
                    (long) outlines.greatest(glyph, true) + dy);
        }
        history.remember(design);
        outlines.moveAll(glyph, dx, dy);
        return outlines.least(glyph, false);
    }

    public int glyph(int glyph, int what) throws IndexOutOfBoundsException, IllegalArgumentException {
        requireGlyph(glyph);
        if (!isWithin(what, 0, 9)) {
            throw new IllegalArgumentException("no such number of a glyph");
        }
        switch (what) {
            case 0: return design.outlines.codeOf(glyph);
            case 1: return design.outlines.contourCount(glyph);
            case 2: return design.outlines.pointCountOf(glyph);
            case 3: return design.outlines.least(glyph, false);
            case 4: return design.outlines.greatest(glyph, false);
            case 5: return design.advanceOf(glyph);
            case 6: return design.kerning.classOf(glyph, true);
            case 7: return design.kerning.classOf(glyph, false);
            case 8: return design.stems.countOf(glyph);
            default: return design.outlines.twiceAreaOf(glyph);
        }
    }

    public int find(int code) throws NoSuchElementException {
        int glyph = design.outlines.glyphWith(code);
        if (glyph == NONE) {
            throw new NoSuchElementException("no glyph has this code");
        }
        return glyph;
    }

    public int points(int glyph, int contour) throws IndexOutOfBoundsException {
        requireContour(glyph, contour);
        return design.outlines.pointCount(glyph, contour);
    }

    public int point(int glyph, int contour, int point, boolean isY) throws IndexOutOfBoundsException {
        requirePoint(glyph, contour, point);
        return isY ? design.outlines.yOf(glyph, contour, point) : design.outlines.xOf(glyph, contour, point);
    }

    public int area(int glyph, int contour) throws IndexOutOfBoundsException {
        requireContour(glyph, contour);
        return design.outlines.twiceArea(glyph, contour);
    }

    // ---- sidebearings ----

    public int setSide(int glyph, int side, int bearing) throws IndexOutOfBoundsException, IllegalArgumentException {
        requireSide(glyph, side);
        if (!isWithin(bearing, MIN_BEARING, MAX_BEARING)) {
            throw new IllegalArgumentException("the sidebearing is out of range");
        }
        history.remember(design);
        int before = design.bearings.valueOf(glyph, side);
        design.bearings.tell(glyph, side, bearing);
        return before;
    }

    public int follow(int glyph, int side, int other, int otherSide, int difference)
            throws IndexOutOfBoundsException, IllegalArgumentException, UnsupportedOperationException {
        requireSide(glyph, side);
        requireSide(other, otherSide);
        if (!isWithin(difference, -MAX_DIFFERENCE, MAX_DIFFERENCE)) {
            throw new IllegalArgumentException("the difference is out of range");
        }
        int leader = Bearings.index(other, otherSide);
        if (design.bearings.leadsTo(leader, Bearings.index(glyph, side))) {
            throw new UnsupportedOperationException("the sidebearing would follow itself");
        }
        history.remember(design);
        design.bearings.setRule(glyph, side, leader, difference);
        return design.bearings.valueOf(glyph, side);
    }

    public int side(int glyph, int side, int what) throws IndexOutOfBoundsException, IllegalArgumentException {
        requireSide(glyph, side);
        if (!isWithin(what, 0, 3)) {
            throw new IllegalArgumentException("no such number of a sidebearing");
        }
        switch (what) {
            case 0: return design.bearings.valueOf(glyph, side);
            case 1: return design.bearings.leaderGlyph(glyph, side);
            case 2: return design.bearings.leaderSide(glyph, side);
            default: return design.bearings.ruleCount(glyph, side);
        }
    }

    public int followers(int glyph, int side) throws IndexOutOfBoundsException {
        requireSide(glyph, side);
        return design.bearings.followerCount(glyph, side);
    }

    // ---- kerning ----

    public int setClass(int glyph, boolean isFirst, int which)
            throws IndexOutOfBoundsException, IllegalArgumentException {
        requireGlyph(glyph);
        if (!isWithin(which, NONE, CLASSES - 1)) {
            throw new IllegalArgumentException("no such class");
        }
        history.remember(design);
        int before = design.kerning.classOf(glyph, isFirst);
        design.kerning.putIntoClass(glyph, isFirst, which);
        return before;
    }

    public int kernClasses(int first, int second, int kern)
            throws IndexOutOfBoundsException, IllegalArgumentException {
        if (!Kerning.areClasses(first, second)) {
            throw new IndexOutOfBoundsException("no such class");
        }
        requireKern(kern);
        history.remember(design);
        design.kerning.tellClasses(first, second, kern);
        return design.kerning.classKernCount();
    }

    public int kernPair(int first, int second, int kern)
            throws IndexOutOfBoundsException, IllegalArgumentException, IllegalStateException {
        requireGlyph(first);
        requireGlyph(second);
        requireKern(kern);
        if (design.kerning.pairKernCount() >= MAX_PAIR_KERNS && !design.kerning.isPairTold(first, second)) {
            throw new IllegalStateException("all kerns for glyphs are told");
        }
        history.remember(design);
        design.kerning.tellPair(first, second, kern);
        return design.kerning.pairKernCount();
    }

    public int dropKern(boolean isPair, int first, int second) throws NoSuchElementException {
        boolean isTold = isPair ? design.kerning.isPairTold(first, second)
                : design.kerning.isClassKernTold(first, second);
        if (!isTold) {
            throw new NoSuchElementException("no such kern is told");
        }
        history.remember(design);
        return isPair ? design.kerning.dropPair(first, second) : design.kerning.dropClasses(first, second);
    }

    public int kern(int first, int second) throws IndexOutOfBoundsException {
        requireGlyph(first);
        requireGlyph(second);
        return design.kerning.kernOf(first, second);
    }

    public int why(int first, int second) throws IndexOutOfBoundsException {
        requireGlyph(first);
        requireGlyph(second);
        int forPair = design.kerning.isPairTold(first, second) ? 2 : 0;
        int forClasses = design.kerning.isToldForClassesOf(first, second) ? 1 : 0;
        return forPair + forClasses;
    }

    // ---- stems, grids and pixels ----

    public int addStem(int glyph, int from, int to)
            throws IndexOutOfBoundsException, IllegalArgumentException, IllegalStateException {
        requireGlyph(glyph);
        requireCoordinates(from, to);
        if (from >= to) {
            throw new IllegalArgumentException("the ends of the stem are not in order");
        }
        if (design.stems.countOf(glyph) >= MAX_STEMS || design.stems.isTaken(glyph, from, to)) {
            throw new IllegalStateException("there is no room for the stem");
        }
        history.remember(design);
        return design.stems.insert(glyph, from, to);
    }

    public int removeStem(int glyph, int stem) throws IndexOutOfBoundsException {
        requireStem(glyph, stem);
        history.remember(design);
        return design.stems.takeOut(glyph, stem);
    }

    public int stem(int glyph, int stem, boolean isRight) throws IndexOutOfBoundsException {
        requireStem(glyph, stem);
        return isRight ? design.stems.rightOf(glyph, stem) : design.stems.leftOf(glyph, stem);
    }

    public int place(int glyph, int size, int x) throws IndexOutOfBoundsException, IllegalArgumentException {
        requireGlyph(glyph);
        requireGrid(size, MAX_GRID);
        if (!isWithin(x, MIN_PLACED, MAX_PLACED)) {
            throw new IllegalArgumentException("the x is out of range");
        }
        return design.stems.placeOn(glyph, size, x);
    }

    public boolean isBlack(int glyph, int size, int column, int row)
            throws IndexOutOfBoundsException, IllegalArgumentException {
        requireGlyph(glyph);
        requireGrid(size, MAX_GRID);
        if (!isWithin(column, -MAX_PIXEL, MAX_PIXEL) || !isWithin(row, -MAX_PIXEL, MAX_PIXEL)) {
            throw new IllegalArgumentException("the pixel is out of range");
        }
        return design.outlines.blackBits(glyph, size, row, column, column) != 0;
    }

    public int blackPixels(int glyph, int size) throws IndexOutOfBoundsException, IllegalArgumentException {
        requireGlyph(glyph);
        requireGrid(size, MAX_COUNTED_GRID);
        int count = 0;
        for (int row = FIRST_COUNTED_PIXEL; row <= LAST_COUNTED_PIXEL; row++) {
            count += Long.bitCount(design.outlines.blackBits(glyph, size, row, FIRST_COUNTED_PIXEL,
                    LAST_COUNTED_PIXEL));
        }
        return count;
    }

    // ---- proofs ----

    public int setProof(int tracking, int space) throws IllegalArgumentException {
        if (!isWithin(tracking, MIN_TRACKING, MAX_TRACKING) || !isWithin(space, MIN_SPACE, MAX_SPACE)) {
            throw new IllegalArgumentException("the tracking or the space width is out of range");
        }
        history.remember(design);
        int before = design.space;
        design.tracking = tracking;
        design.space = space;
        return before;
    }

    public void append(char c) throws IllegalStateException {
        if (buffer.isFull()) {
            throw new IllegalStateException("the text buffer is full");
        }
        buffer.add(c);
    }

    public int takeProof() throws IllegalArgumentException {
        boolean isProof = Proof.isProof(buffer, design.outlines);
        if (isProof) {
            proof.take(buffer, design.outlines);
        }
        buffer.clear();
        if (!isProof) {
            throw new IllegalArgumentException("a character is neither a space nor the code of a glyph");
        }
        return proof.length();
    }

    public int proofWidth() throws NoSuchElementException {
        if (proof.length() == 0) {
            throw new NoSuchElementException("there is no character in the proof");
        }
        proof.set(design);
        return proof.width();
    }

    public int position(int index) throws NoSuchElementException {
        if (!isWithin(index, 0, proof.length() - 1)) {
            throw new NoSuchElementException("there is no such character in the proof");
        }
        proof.set(design);
        return proof.placeOf(index);
    }

    public int lines(int measure) throws IllegalArgumentException {
        requireMeasure(measure);
        proof.set(design);
        proof.breakLines(measure);
        return proof.lineCount();
    }

    public int line(int measure, int line, int what) throws IllegalArgumentException, NoSuchElementException {
        requireMeasure(measure);
        if (!isWithin(what, 0, 2)) {
            throw new IllegalArgumentException("no such number of a line");
        }
        proof.set(design);
        proof.breakLines(measure);
        if (!isWithin(line, 0, proof.lineCount() - 1)) {
            throw new NoSuchElementException("there is no such line");
        }
        switch (what) {
            case 0: return proof.lineWidth(line);
            case 1: return proof.lineStart(line);
            default: return proof.lineWords(line);
        }
    }

    public int leastMeasure(int lines) throws IllegalArgumentException, NoSuchElementException {
        if (!isWithin(lines, 1, MAX_LINES)) {
            throw new IllegalArgumentException("the number of lines is out of range");
        }
        proof.set(design);
        int measure = proof.leastMeasureFor(lines);
        if (measure == NONE) {
            throw new NoSuchElementException("no measure is sufficient");
        }
        return measure;
    }

    // ---- accounts ----

    public double meanAdvance() throws ArithmeticException {
        int glyphs = design.outlines.glyphCount();
        if (glyphs == 0) {
            throw new ArithmeticException("there is no glyph");
        }
        return (double) design.advanceSum() / (double) glyphs;
    }

    public int account(int what) throws IllegalArgumentException {
        if (!isWithin(what, 0, 8)) {
            throw new IllegalArgumentException("no such account");
        }
        switch (what) {
            case 0: return design.outlines.glyphCount();
            case 1: return design.outlines.contourSum();
            case 2: return design.outlines.pointSum();
            case 3: return design.bearings.ruleSum();
            case 4: return design.kerning.classKernCount();
            case 5: return design.kerning.pairKernCount();
            case 6: return design.kernedPairSum();
            case 7: return design.stems.sum();
            default: return design.advanceSum();
        }
    }

    // ---- texts ----

    public int readGlyph() throws IllegalArgumentException, IllegalStateException {
        latestFault = glyphText.faultIn(buffer);
        buffer.clear();
        if (latestFault != NONE) {
            throw new IllegalArgumentException("the text has a fault");
        }
        int known = design.outlines.glyphWith(glyphText.code());
        if (!glyphText.fitsIntoGlyph() || known == NONE && design.outlines.isFull()) {
            throw new IllegalStateException("the design has no room for this glyph");
        }
        history.remember(design);
        int glyph = known == NONE ? design.outlines.addEmptyGlyph(glyphText.code()) : known;
        glyphText.drawInto(design.outlines, glyph);
        return glyph;
    }

    public int faultPosition() {
        return latestFault;
    }

    // ---- changes ----

    public int undo() throws IllegalStateException {
        if (history.size() == 0) {
            throw new IllegalStateException("no change is kept");
        }
        history.takeBack(design);
        proof.forget();
        return history.size();
    }

    public void save() {
        snapshot.copyFrom(design);
        hasSnapshot = true;
    }

    public void restore() throws IllegalStateException {
        if (!hasSnapshot) {
            throw new IllegalStateException("there is no snapshot");
        }
        design.copyFrom(snapshot);
        history.forget();
        proof.forget();
    }

    // ---- what the methods above have in common ----

    private static boolean isWithin(long value, long least, long greatest) {
        return value >= least && value <= greatest;
    }

    private void requireGlyph(int glyph) {
        if (!isWithin(glyph, 0, design.outlines.glyphCount() - 1)) {
            throw new IndexOutOfBoundsException("no such glyph");
        }
    }

    private void requireContour(int glyph, int contour) {
        requireGlyph(glyph);
        if (!isWithin(contour, 0, design.outlines.contourCount(glyph) - 1)) {
            throw new IndexOutOfBoundsException("no such contour");
        }
    }

    private void requirePoint(int glyph, int contour, int point) {
        requireContour(glyph, contour);
        if (!isWithin(point, 0, design.outlines.pointCount(glyph, contour) - 1)) {
            throw new IndexOutOfBoundsException("no such point");
        }
    }

    private void requireSide(int glyph, int side) {
        requireGlyph(glyph);
        if (!isWithin(side, 0, SIDES - 1)) {
            throw new IndexOutOfBoundsException("no such side");
        }
    }

    private void requireStem(int glyph, int stem) {
        requireGlyph(glyph);
        if (!isWithin(stem, 0, design.stems.countOf(glyph) - 1)) {
            throw new IndexOutOfBoundsException("no such stem");
        }
    }

    private static void requireCoordinates(long one, long other) {
        if (!isWithin(one, MIN_COORDINATE, MAX_COORDINATE) || !isWithin(other, MIN_COORDINATE, MAX_COORDINATE)) {
            throw new IllegalArgumentException("a coordinate is out of range");
        }
    }

    private static void requireKern(int kern) {
        if (!isWithin(kern, -MAX_KERN, MAX_KERN)) {
            throw new IllegalArgumentException("the kern is out of range");
        }
    }

    private static void requireGrid(int size, int greatest) {
        if (!isWithin(size, MIN_GRID, greatest)) {
            throw new IllegalArgumentException("the size of the grid is out of range");
        }
    }

    private static void requireMeasure(int measure) {
        if (!isWithin(measure, 1, MAX_MEASURE)) {
            throw new IllegalArgumentException("the measure is out of range");
        }
    }

    /** A row of numbers; it is there so that each index is tested in one place. */
    private static final class Row {
        private final int[] cells;

        Row(int length, int value) {
            cells = new int[length > 0 ? length : 0];
            for (int i = 0; i < cells.length; i++) {
                cells[i] = value;
            }
        }

        int get(int index) {
            return index >= 0 && index < cells.length ? cells[index] : 0;
        }

        void put(int index, int value) {
            if (index >= 0 && index < cells.length) {
                cells[index] = value;
            }
        }

        void copyFrom(Row other) {
            System.arraycopy(other.cells, 0, cells, 0, Math.min(other.cells.length, cells.length));
        }
    }

    /** The glyphs with their codes, contours and points. */
    private static final class Outlines {
        private final Row codes = new Row(MAX_GLYPHS, 0);
        private final Row contourCounts = new Row(MAX_GLYPHS, 0);
        private final Row pointCounts = new Row(MAX_GLYPHS * MAX_CONTOURS, 0);
        private final Row xs = new Row(MAX_GLYPHS * MAX_CONTOURS * MAX_POINTS, 0);
        private final Row ys = new Row(MAX_GLYPHS * MAX_CONTOURS * MAX_POINTS, 0);
        private int glyphs = 0;

        void copyFrom(Outlines other) {
            codes.copyFrom(other.codes);
            contourCounts.copyFrom(other.contourCounts);
            pointCounts.copyFrom(other.pointCounts);
            xs.copyFrom(other.xs);
            ys.copyFrom(other.ys);
            glyphs = other.glyphs;
        }

        int glyphCount() {
            return glyphs;
        }

        boolean isFull() {
            return glyphs >= MAX_GLYPHS;
        }

        int codeOf(int glyph) {
            return codes.get(glyph);
        }

        int glyphWith(int code) {
            for (int glyph = 0; glyph < glyphs; glyph++) {
                if (codes.get(glyph) == code) {
                    return glyph;
                }
            }
            return NONE;
        }

        int addEmptyGlyph(int code) {
            int glyph = glyphs;
            codes.put(glyph, code);
            glyphs = glyph + 1;
            return glyph;
        }

        int contourCount(int glyph) {
            return contourCounts.get(glyph);
        }

        int pointCount(int glyph, int contour) {
            return pointCounts.get(contourIndex(glyph, contour));
        }

        int xOf(int glyph, int contour, int point) {
            return xs.get(pointIndex(glyph, contour, point));
        }

        int yOf(int glyph, int contour, int point) {
            return ys.get(pointIndex(glyph, contour, point));
        }

        void setPoint(int glyph, int contour, int point, int x, int y) {
            xs.put(pointIndex(glyph, contour, point), x);
            ys.put(pointIndex(glyph, contour, point), y);
        }

        void removeContours(int glyph) {
            contourCounts.put(glyph, 0);
        }

        int addEmptyContour(int glyph) {
            int contour = contourCount(glyph);
            contourCounts.put(glyph, contour + 1);
            pointCounts.put(contourIndex(glyph, contour), 0);
            return contour;
        }

        void addPoint(int glyph, int contour, int x, int y) {
            int point = pointCount(glyph, contour);
            setPoint(glyph, contour, point, x, y);
            pointCounts.put(contourIndex(glyph, contour), point + 1);
        }

        int addBox(int glyph, int left, int bottom, int right, int top) {
            int contour = addEmptyContour(glyph);
            addPoint(glyph, contour, left, bottom);
            addPoint(glyph, contour, right, bottom);
            addPoint(glyph, contour, right, top);
            addPoint(glyph, contour, left, top);
            return contour;
        }

        void moveAll(int glyph, int dx, int dy) {
            for (int contour = 0; contour < contourCount(glyph); contour++) {
                for (int point = 0; point < pointCount(glyph, contour); point++) {
                    setPoint(glyph, contour, point, xOf(glyph, contour, point) + dx, yOf(glyph, contour, point) + dy);
                }
            }
        }

        int least(int glyph, boolean isY) {
            return extreme(glyph, isY ? ys : xs, false);
        }

        int greatest(int glyph, boolean isY) {
            return extreme(glyph, isY ? ys : xs, true);
        }

        private int extreme(int glyph, Row coordinates, boolean isGreatest) {
            int extreme = contourCount(glyph) == 0 ? 0 : coordinates.get(pointIndex(glyph, 0, 0));
            for (int contour = 0; contour < contourCount(glyph); contour++) {
                for (int point = 0; point < pointCount(glyph, contour); point++) {
                    int value = coordinates.get(pointIndex(glyph, contour, point));
                    extreme = isGreatest ? Math.max(extreme, value) : Math.min(extreme, value);
                }
            }
            return extreme;
        }

        int twiceArea(int glyph, int contour) {
            int sum = 0;
            for (int point = 0; point < pointCount(glyph, contour); point++) {
                int next = nextPoint(glyph, contour, point);
                sum += xOf(glyph, contour, point) * yOf(glyph, contour, next)
                        - xOf(glyph, contour, next) * yOf(glyph, contour, point);
            }
            return sum;
        }

        int twiceAreaOf(int glyph) {
            int sum = 0;
            for (int contour = 0; contour < contourCount(glyph); contour++) {
                sum += twiceArea(glyph, contour);
            }
            return sum;
        }

        int pointCountOf(int glyph) {
            int sum = 0;
            for (int contour = 0; contour < contourCount(glyph); contour++) {
                sum += pointCount(glyph, contour);
            }
            return sum;
        }

        int contourSum() {
            int sum = 0;
            for (int glyph = 0; glyph < glyphs; glyph++) {
                sum += contourCount(glyph);
            }
            return sum;
        }

        int pointSum() {
            int sum = 0;
            for (int glyph = 0; glyph < glyphs; glyph++) {
                sum += pointCountOf(glyph);
            }
            return sum;
        }

        /** Returns the pixels of a row that are black as bits, the lowest one for the first column. */
        long blackBits(int glyph, int size, int row, int firstColumn, int lastColumn) {
            // All lengths are taken times the size, so that the middle of a pixel is a whole point.
            int middleY = (2 * row + 1) * HALF_EM;
            long bits = 0;
            for (int contour = 0; contour < contourCount(glyph); contour++) {
                for (int point = 0; point < pointCount(glyph, contour); point++) {
                    int next = nextPoint(glyph, contour, point);
                    int y = yOf(glyph, contour, point) * size - middleY;
                    int v = yOf(glyph, contour, next) * size - middleY;
                    if ((y <= 0) != (v <= 0)) {
                        int x = xOf(glyph, contour, point) * size;
                        int u = xOf(glyph, contour, next) * size;
                        // A second crossing makes a pixel white again.
                        bits ^= v > y ? bitsBefore(x, y, u, v, firstColumn, lastColumn)
                                : bitsBefore(u, v, x, y, firstColumn, lastColumn);
                    }
                }
            }
            return bits;
        }

        /** Returns the columns with their middle before the point where a rising side meets the height 0. */
        private static long bitsBefore(int x, int y, int u, int v, int firstColumn, int lastColumn) {
            long bits = 0;
            long bit = 1;
            for (int column = firstColumn; column <= lastColumn; column++) {
                int middleX = (2 * column + 1) * HALF_EM;
                // The side meets the height at (x * v - u * y) / (v - y), and v - y is greater than 0.
                if ((long) (x - middleX) * v > (long) (u - middleX) * y) {
                    bits |= bit;
                }
                bit <<= 1;
            }
            return bits;
        }

        private int nextPoint(int glyph, int contour, int point) {
            return point + 1 < pointCount(glyph, contour) ? point + 1 : 0;
        }

        private static int contourIndex(int glyph, int contour) {
            return glyph * MAX_CONTOURS + contour;
        }

        private static int pointIndex(int glyph, int contour, int point) {
            return contourIndex(glyph, contour) * MAX_POINTS + point;
        }
    }

    /** The sidebearings: each one has an index, and its leader is the index that its rule names. */
    private static final class Bearings {
        private final Row told = new Row(MAX_GLYPHS * SIDES, FIRST_BEARING);
        private final Row leaders = new Row(MAX_GLYPHS * SIDES, NONE);
        private final Row differences = new Row(MAX_GLYPHS * SIDES, 0);

        void copyFrom(Bearings other) {
            told.copyFrom(other.told);
            leaders.copyFrom(other.leaders);
            differences.copyFrom(other.differences);
        }

        static int index(int glyph, int side) {
            return glyph * SIDES + side;
        }

        void tell(int glyph, int side, int bearing) {
            told.put(index(glyph, side), bearing);
            leaders.put(index(glyph, side), NONE);
        }

        void setRule(int glyph, int side, int leader, int difference) {
            leaders.put(index(glyph, side), leader);
            differences.put(index(glyph, side), difference);
        }

        int valueOf(int glyph, int side) {
            int at = index(glyph, side);
            int sum = 0;
            // No rule leads back to where it began, so no more rules than sidebearings follow one another.
            for (int rule = 0; rule < MAX_GLYPHS * SIDES && leaders.get(at) != NONE; rule++) {
                sum += differences.get(at);
                at = leaders.get(at);
            }
            return sum + told.get(at);
        }

        int ruleCount(int glyph, int side) {
            int at = index(glyph, side);
            int rules = 0;
            while (rules < MAX_GLYPHS * SIDES && leaders.get(at) != NONE) {
                at = leaders.get(at);
                rules++;
            }
            return rules;
        }

        int leaderGlyph(int glyph, int side) {
            int leader = leaders.get(index(glyph, side));
            return leader == NONE ? NONE : leader / SIDES;
        }

        int leaderSide(int glyph, int side) {
            int leader = leaders.get(index(glyph, side));
            return leader == NONE ? NONE : leader % SIDES;
        }

        /** Tells whether a sidebearing is another one or follows it. */
        boolean leadsTo(int from, int goal) {
            int at = from;
            for (int rule = 0; rule <= MAX_GLYPHS * SIDES && at != NONE; rule++) {
                if (at == goal) {
                    return true;
                }
                at = leaders.get(at);
            }
            return false;
        }

        int followerCount(int glyph, int side) {
            int goal = index(glyph, side);
            int count = 0;
            for (int at = 0; at < MAX_GLYPHS * SIDES; at++) {
                if (at != goal && leadsTo(at, goal)) {
                    count++;
                }
            }
            return count;
        }

        int ruleSum() {
            int sum = 0;
            for (int at = 0; at < MAX_GLYPHS * SIDES; at++) {
                if (leaders.get(at) != NONE) {
                    sum++;
                }
            }
            return sum;
        }
    }

    /** The classes of the glyphs, and the kerns for classes and for glyphs. */
    private static final class Kerning {
        /** No kern, for a kern of 0 can be told, too. */
        private static final int UNTOLD = MAX_KERN + 1;

        private final Row firstClasses = new Row(MAX_GLYPHS, NONE);
        private final Row secondClasses = new Row(MAX_GLYPHS, NONE);
        private final Row classKerns = new Row(CLASSES * CLASSES, UNTOLD);
        private final Row pairKerns = new Row(MAX_GLYPHS * MAX_GLYPHS, UNTOLD);
        private int toldForClasses = 0;
        private int toldForPairs = 0;

        void copyFrom(Kerning other) {
            firstClasses.copyFrom(other.firstClasses);
            secondClasses.copyFrom(other.secondClasses);
            classKerns.copyFrom(other.classKerns);
            pairKerns.copyFrom(other.pairKerns);
            toldForClasses = other.toldForClasses;
            toldForPairs = other.toldForPairs;
        }

        int classOf(int glyph, boolean isFirst) {
            return isFirst ? firstClasses.get(glyph) : secondClasses.get(glyph);
        }

        void putIntoClass(int glyph, boolean isFirst, int which) {
            Row classes = isFirst ? firstClasses : secondClasses;
            classes.put(glyph, which);
        }

        static boolean areClasses(int first, int second) {
            return isWithin(first, 0, CLASSES - 1) && isWithin(second, 0, CLASSES - 1);
        }

        boolean isClassKernTold(int first, int second) {
            return areClasses(first, second) && classKerns.get(first * CLASSES + second) != UNTOLD;
        }

        boolean isPairTold(int first, int second) {
            return isWithin(first, 0, MAX_GLYPHS - 1) && isWithin(second, 0, MAX_GLYPHS - 1)
                    && pairKerns.get(first * MAX_GLYPHS + second) != UNTOLD;
        }

        boolean isToldForClassesOf(int first, int second) {
            return isClassKernTold(firstClasses.get(first), secondClasses.get(second));
        }

        void tellClasses(int first, int second, int kern) {
            if (!isClassKernTold(first, second)) {
                toldForClasses++;
            }
            classKerns.put(first * CLASSES + second, kern);
        }

        void tellPair(int first, int second, int kern) {
            if (!isPairTold(first, second)) {
                toldForPairs++;
            }
            pairKerns.put(first * MAX_GLYPHS + second, kern);
        }

        int dropClasses(int first, int second) {
            int kern = classKerns.get(first * CLASSES + second);
            classKerns.put(first * CLASSES + second, UNTOLD);
            toldForClasses--;
            return kern;
        }

        int dropPair(int first, int second) {
            int kern = pairKerns.get(first * MAX_GLYPHS + second);
            pairKerns.put(first * MAX_GLYPHS + second, UNTOLD);
            toldForPairs--;
            return kern;
        }

        int classKernCount() {
            return toldForClasses;
        }

        int pairKernCount() {
            return toldForPairs;
        }

        int kernOf(int first, int second) {
            if (isPairTold(first, second)) {
                return pairKerns.get(first * MAX_GLYPHS + second);
            }
            if (isToldForClassesOf(first, second)) {
                return classKerns.get(firstClasses.get(first) * CLASSES + secondClasses.get(second));
            }
            return 0;
        }
    }

    /** The stems of all glyphs, kept from left to right. */
    private static final class Stems {
        private final Row counts = new Row(MAX_GLYPHS, 0);
        private final Row lefts = new Row(MAX_GLYPHS * MAX_STEMS, 0);
        private final Row rights = new Row(MAX_GLYPHS * MAX_STEMS, 0);

        void copyFrom(Stems other) {
            counts.copyFrom(other.counts);
            lefts.copyFrom(other.lefts);
            rights.copyFrom(other.rights);
        }

        int countOf(int glyph) {
            return counts.get(glyph);
        }

        int leftOf(int glyph, int stem) {
            return lefts.get(glyph * MAX_STEMS + stem);
        }

        int rightOf(int glyph, int stem) {
            return rights.get(glyph * MAX_STEMS + stem);
        }

        private void put(int glyph, int stem, int left, int right) {
            lefts.put(glyph * MAX_STEMS + stem, left);
            rights.put(glyph * MAX_STEMS + stem, right);
        }

        boolean isTaken(int glyph, int from, int to) {
            for (int stem = 0; stem < countOf(glyph); stem++) {
                if (from <= rightOf(glyph, stem) && to >= leftOf(glyph, stem)) {
                    return true;
                }
            }
            return false;
        }

        int insert(int glyph, int from, int to) {
            int stem = countOf(glyph);
            while (stem > 0 && leftOf(glyph, stem - 1) > from) {
                put(glyph, stem, leftOf(glyph, stem - 1), rightOf(glyph, stem - 1));
                stem--;
            }
            put(glyph, stem, from, to);
            counts.put(glyph, countOf(glyph) + 1);
            return stem;
        }

        int takeOut(int glyph, int stem) {
            int length = rightOf(glyph, stem) - leftOf(glyph, stem);
            for (int next = stem + 1; next < countOf(glyph); next++) {
                put(glyph, next - 1, leftOf(glyph, next), rightOf(glyph, next));
            }
            counts.put(glyph, countOf(glyph) - 1);
            return length;
        }

        int sum() {
            int sum = 0;
            for (int glyph = 0; glyph < MAX_GLYPHS; glyph++) {
                sum += countOf(glyph);
            }
            return sum;
        }

        int placeOn(int glyph, int size, int x) {
            int rightPlace = 0;
            int correction = 0;
            for (int stem = 0; stem < countOf(glyph); stem++) {
                int left = leftOf(glyph, stem);
                int right = rightOf(glyph, stem);
                int leftPlace = rounded(left, size);
                if (stem > 0) {
                    leftPlace = Math.max(leftPlace, rightPlace + 1);
                }
                rightPlace = leftPlace + Math.max(rounded(right - left, size), 1);
                if (x == left) {
                    return leftPlace;
                }
                if (x == right) {
                    return rightPlace;
                }
                // The stems come from left to right, so the last end less than x is the nearest one.
                if (left < x) {
                    correction = leftPlace - rounded(left, size);
                }
                if (right < x) {
                    correction = rightPlace - rounded(right, size);
                }
            }
            return rounded(x, size) + correction;
        }

        private static int rounded(int x, int size) {
            return Math.floorDiv(x * size + HALF_EM, EM);
        }
    }

    /** All that save keeps and undo brings back. */
    private static final class Design {
        private final Outlines outlines = new Outlines();
        private final Bearings bearings = new Bearings();
        private final Kerning kerning = new Kerning();
        private final Stems stems = new Stems();
        private int tracking = 0;
        private int space = FIRST_SPACE;

        void copyFrom(Design other) {
            outlines.copyFrom(other.outlines);
            bearings.copyFrom(other.bearings);
            kerning.copyFrom(other.kerning);
            stems.copyFrom(other.stems);
            tracking = other.tracking;
            space = other.space;
        }

        int advanceOf(int glyph) {
            return bearings.valueOf(glyph, 0) + bearings.valueOf(glyph, 1)
                    + outlines.greatest(glyph, false) - outlines.least(glyph, false);
        }

        int advanceSum() {
            int sum = 0;
            for (int glyph = 0; glyph < outlines.glyphCount(); glyph++) {
                sum += advanceOf(glyph);
            }
            return sum;
        }

        int kernedPairSum() {
            int sum = 0;
            for (int first = 0; first < outlines.glyphCount(); first++) {
                for (int second = 0; second < outlines.glyphCount(); second++) {
                    if (kerning.kernOf(first, second) != 0) {
                        sum++;
                    }
                }
            }
            return sum;
        }
    }

    /** The designs before the latest changes, in a ring, so that its rows are used again. */
    private static final class History {
        private final Design[] ring = new Design[MAX_CHANGES];
        private int next = 0;
        private int size = 0;

        History() {
            for (int i = 0; i < ring.length; i++) {
                ring[i] = new Design();
            }
        }

        int size() {
            return size;
        }

        void remember(Design design) {
            Design slot = slot(next);
            if (slot != null) {
                slot.copyFrom(design);
            }
            next = (next + 1) % MAX_CHANGES;
            size = Math.min(size + 1, MAX_CHANGES);
        }

        void takeBack(Design design) {
            next = (next + MAX_CHANGES - 1) % MAX_CHANGES;
            size = Math.max(size - 1, 0);
            Design slot = slot(next);
            if (slot != null) {
                design.copyFrom(slot);
            }
        }

        void forget() {
            size = 0;
        }

        private Design slot(int index) {
            return index >= 0 && index < ring.length ? ring[index] : null;
        }
    }

    /** The text buffer. */
    private static final class TextBuffer {
        private final Row signs = new Row(MAX_TEXT, 0);
        private int length = 0;

        int length() {
            return length;
        }

        boolean isFull() {
            return length >= MAX_TEXT;
        }

        int signAt(int index) {
            return signs.get(index);
        }

        void add(int sign) {
            signs.put(length, sign);
            length++;
        }

        void clear() {
            length = 0;
        }
    }

    /** Reads the text of a glyph sign by sign; what it has read last stays until the next reading. */
    private static final class GlyphText {
        private static final int AT_CODE = 0;
        private static final int AT_FIRST_CONTOUR = 1;
        private static final int AT_COORDINATE = 2;
        private static final int AFTER_MINUS = 3;
        private static final int IN_NUMBER = 4;
        private static final int AFTER_CONTOUR = 5;
        private static final int MAX_DIGITS = 4;

        // No text holds more points or contours than signs.
        private final Row xs = new Row(MAX_TEXT, 0);
        private final Row ys = new Row(MAX_TEXT, 0);
        private final Row pointCounts = new Row(MAX_TEXT, 0);
        private int state = AT_CODE;
        private int code = 0;
        private int contours = 0;
        private int points = 0;
        private int contourPoints = 0;
        private boolean isY = false;
        private boolean isNegative = false;
        private int digits = 0;
        private int value = 0;

        /** Returns the fault position of a text. */
        int faultIn(TextBuffer text) {
            state = AT_CODE;
            contours = 0;
            points = 0;
            for (int i = 0; i < text.length(); i++) {
                if (!accepts(text.signAt(i))) {
                    return i;
                }
            }
            return state == AFTER_CONTOUR ? NONE : text.length();
        }

        int code() {
            return code;
        }

        boolean fitsIntoGlyph() {
            for (int point = 0; point < points; point++) {
                if (!isWithin(xs.get(point), MIN_COORDINATE, MAX_COORDINATE)
                        || !isWithin(ys.get(point), MIN_COORDINATE, MAX_COORDINATE)) {
                    return false;
                }
            }
            for (int contour = 0; contour < contours; contour++) {
                if (pointCounts.get(contour) > MAX_POINTS) {
                    return false;
                }
            }
            return contours <= MAX_CONTOURS;
        }

        void drawInto(Outlines outlines, int glyph) {
            outlines.removeContours(glyph);
            int from = 0;
            for (int i = 0; i < contours; i++) {
                int contour = outlines.addEmptyContour(glyph);
                int to = from + pointCounts.get(i);
                for (int point = from; point < to; point++) {
                    outlines.addPoint(glyph, contour, xs.get(point), ys.get(point));
                }
                from = to;
            }
        }

        private boolean accepts(int sign) {
            switch (state) {
                case AT_CODE: return acceptsCode(sign);
                case AT_COORDINATE: return acceptsMinus(sign) || acceptsFirstDigit(sign);
                case AFTER_MINUS: return acceptsFirstDigit(sign);
                case IN_NUMBER: return acceptsNextDigit(sign) || acceptsEndOfNumber(sign);
                default: return acceptsOpening(sign);
            }
        }

        private boolean acceptsCode(int sign) {
            code = sign;
            state = AT_FIRST_CONTOUR;
            return isWithin(sign, MIN_CODE, MAX_CODE);
        }

        private boolean acceptsOpening(int sign) {
            contourPoints = 0;
            beginCoordinate(false);
            return sign == '(';
        }

        private void beginCoordinate(boolean isOfY) {
            state = AT_COORDINATE;
            isY = isOfY;
            isNegative = false;
        }

        private boolean acceptsMinus(int sign) {
            if (sign != '-') {
                return false;
            }
            isNegative = true;
            state = AFTER_MINUS;
            return true;
        }

        private boolean acceptsFirstDigit(int sign) {
            digits = 1;
            value = sign - '0';
            state = IN_NUMBER;
            return isDigit(sign);
        }

        private boolean acceptsNextDigit(int sign) {
            // A value of 0 has 0 as its first digit, and then there is no second one.
            if (!isDigit(sign) || value == 0 || digits >= MAX_DIGITS) {
                return false;
            }
            digits++;
            value = value * 10 + (sign - '0');
            return true;
        }

        private boolean acceptsEndOfNumber(int sign) {
            return isY ? acceptsEndOfPoint(sign) : acceptsComma(sign);
        }

        private boolean acceptsComma(int sign) {
            xs.put(points, signedValue());
            beginCoordinate(true);
            return sign == ',';
        }

        private boolean acceptsEndOfPoint(int sign) {
            ys.put(points, signedValue());
            points++;
            contourPoints++;
            if (sign == ')' && contourPoints >= MIN_POINTS) {
                pointCounts.put(contours, contourPoints);
                contours++;
                state = AFTER_CONTOUR;
                return true;
            }
            beginCoordinate(false);
            return sign == ' ';
        }

        private int signedValue() {
            return isNegative ? -value : value;
        }

        private static boolean isDigit(int sign) {
            return isWithin(sign, '0', '9');
        }
    }

    /** The proof as glyph numbers and spaces, and the lines into which it was broken last. */
    private static final class Proof {
        private static final int SPACE = ' ';

        private final Row glyphs = new Row(MAX_TEXT, NONE);
        private final Row places = new Row(MAX_TEXT, 0);
        private final Row ends = new Row(MAX_TEXT, 0);
        private final Row lineWidths = new Row(MAX_TEXT, 0);
        private final Row lineStarts = new Row(MAX_TEXT, 0);
        private final Row lineWords = new Row(MAX_TEXT, 0);
        private int length = 0;
        private int gap = 0;
        private int lines = 0;
        private int leastRefused = 0;

        static boolean isProof(TextBuffer text, Outlines outlines) {
            for (int i = 0; i < text.length(); i++) {
                if (text.signAt(i) != SPACE && outlines.glyphWith(text.signAt(i)) == NONE) {
                    return false;
                }
            }
            return true;
        }

        void take(TextBuffer text, Outlines outlines) {
            length = text.length();
            for (int i = 0; i < length; i++) {
                // No glyph has the space as its code, so a space becomes NONE.
                glyphs.put(i, outlines.glyphWith(text.signAt(i)));
            }
        }

        void forget() {
            length = 0;
        }

        int length() {
            return length;
        }

        /** Sets the proof as one line, from which words and their widths are taken. */
        void set(Design design) {
            gap = design.tracking + design.space + design.tracking;
            int place = 0;
            for (int i = 0; i < length; i++) {
                places.put(i, place);
                int glyph = glyphs.get(i);
                place += glyph == NONE ? design.space : design.advanceOf(glyph);
                ends.put(i, place);
                place += design.tracking;
                if (!isSpace(i) && !isSpace(i + 1)) {
                    place += design.kerning.kernOf(glyph, glyphs.get(i + 1));
                }
            }
        }

        int width() {
            return ends.get(length - 1);
        }

        int placeOf(int index) {
            return places.get(index);
        }

        void breakLines(int measure) {
            lines = 0;
            leastRefused = MAX_MEASURE + 1;
            int start = 0;
            for (int i = 0; i < length; i++) {
                if (isSpace(i)) {
                    start = i + 1;
                } else if (isSpace(i + 1)) {
                    putWord(start, ends.get(i) - places.get(start), measure);
                }
            }
        }

        int lineCount() {
            return lines;
        }

        int lineWidth(int line) {
            return lineWidths.get(line);
        }

        int lineStart(int line) {
            return lineStarts.get(line);
        }

        int lineWords(int line) {
            return lineWords.get(line);
        }

        /** Returns the least measure for at most a number of lines, NONE if none is in range. */
        int leastMeasureFor(int most) {
            int measure = 1;
            // Kerns and bearings can be negative, so a greater measure can give more lines: all measures
            // count. But between two widths that are refused, all measures give the same lines. Each width
            // is that of a line from one word to another, so there are fewer than pairs of signs.
            for (int step = 0; step < MAX_TEXT * MAX_TEXT && measure <= MAX_MEASURE; step++) {
                breakLines(measure);
                if (lines <= most) {
                    return measure;
                }
                measure = leastRefused;
            }
            return NONE;
        }

        private boolean isSpace(int index) {
            return index < 0 || index >= length || glyphs.get(index) == NONE;
        }

        private void putWord(int start, int width, int measure) {
            if (lines > 0) {
                int joined = lineWidths.get(lines - 1) + gap + width;
                if (joined <= measure) {
                    lineWidths.put(lines - 1, joined);
                    lineWords.put(lines - 1, lineWords.get(lines - 1) + 1);
                    return;
                }
                leastRefused = Math.min(leastRefused, joined);
            }
            lineWidths.put(lines, width);
            lineStarts.put(lines, start);
            lineWords.put(lines, 1);
            lines++;
        }
    }
}
