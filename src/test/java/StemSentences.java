/** The sentences on stems, grids and pixels: promises 21 to 26. */
final class StemSentences extends Sentences {
    /** Four stems: on a grid of 10 they take the places 0 to 1, 2 to 3, 4 to 5 and 7 to 8. */
    private static final Calls FOUR = stems(20, 30, 31, 32, 33, 160, 700, 790);

    private static final String PLACE =
            "The place of an x in a glyph on the grid is: for the left end of a stem, round(x * n / 1000), but "
            + "at least one pixel more than the place of the right end of the stem before; for its right end, the "
            + "place of its left end plus the rounded length of the stem, but at least 1; for any other x, round(x "
            + "* n / 1000) plus the place of the end of a stem that is nearest to it from the left minus the "
            + "rounded value of this end; and only the rounded value if no stem has an end that is less than x.";

    private static final String BLACK =
            "It is black if a ray from there to greater x crosses the contours of the glyph an odd number of "
            + "times, where a side from x,y to u,v is crossed if the middle lies at y or above and below v, or at "
            + "v or above and below y, and the point of the side at this height has an x greater than that of the "
            + "middle.";

    StemSentences(Checks checks, Quotes quotes) {
        super(checks, quotes);
    }

    /** A glyph with these stems. */
    private static Calls stems(int... ends) {
        return glyphs(1).then(x -> {
            for (int i = 0; i + 1 < ends.length; i += 2) {
                x.addStem(0, ends[i], ends[i + 1]);
            }
        });
    }

    /** A glyph with a box. */
    private static Calls box(int x, int y, int width, int height) {
        return glyphs(1).then(design -> design.addContour(0, x, y, width, height));
    }

    /** Each row is an x and the place that is due for it. */
    private void placesAre(Calls scene, int size, int[][] rows) {
        for (int[] row : rows) {
            answers(row[1], scene, x -> x.place(0, size, row[0]));
        }
    }

    /** Each row is a column, a row and whether this pixel is black. */
    private void pixelsAre(Calls scene, int size, int[][] rows) {
        for (int[] row : rows) {
            answers(row[2], scene, x -> bit(x.isBlack(0, size, row[0], row[1])));
        }
    }

    @Override
    void testAll() {
        descriptionOfStems();
        descriptionOfLengths();
        descriptionOfPlaces();
        descriptionOfOtherPlaces();
        descriptionOfMiddles();
        descriptionOfBlack();
        descriptionOfSlantedSides();
        addStem();
        endsOfAddStem();
        refusedStems();
        removeStem();
        stem();
        place();
        isBlack();
        blackPixels();
    }

    // ---- the description ----

    private void descriptionOfStems() {
        description("Stems");
        sentence("A glyph has at most 4 stems, each from an x to a greater one, that do not touch or overlap one "
                + "another; they are numbered from 0 from left to right.");
        test("a 4th stem is kept, a 5th is not", () -> {
            answers(3, stems(0, 10, 20, 30, 40, 50), x -> x.addStem(0, 60, 70));
            refuses(STATE, FOUR, x -> x.addStem(0, 900, 950));
        });
        test("the ends differ by 1, and by 0", () -> {
            answers(0, glyphs(1), x -> x.addStem(0, 7, 8));
            refuses(ARGUMENT, glyphs(1), x -> x.addStem(0, 7, 7));
        });
        test("they touch, and they are one unit apart", () -> {
            refuses(STATE, stems(10, 20), x -> x.addStem(0, 20, 30), x -> x.addStem(0, 0, 10));
            answers(1, stems(10, 20), x -> x.addStem(0, 21, 30));
            answers(0, stems(10, 20), x -> x.addStem(0, 0, 9));
        });
        test("numbered from left to right, and not in the order in which they were added", () ->
                answersEach(numbers(-200, 5, 300, 1190), stems(300, 310, 1190, 1200, -200, -190, 5, 6),
                        (x, stem) -> x.stem(0, stem, false)));
    }

    private void descriptionOfLengths() {
        description("Grids");
        sentence("On a grid of size n, from 6 to 60, a length of x units is round(x * n / 1000) pixels, where "
                + "round gives the nearest whole number, and the greater one of two.");
        test("sizes 6 and 60, and no int beyond", () ->
                takesOnly(6, 60, ARGUMENT, FURNISHED, (x, size) -> x.place(0, size, 500)));
        test("halves, and one unit less", () ->
                placesAre(glyphs(1), 10, new int[][] {{50, 1}, {49, 0}, {150, 2}, {149, 1}, {0, 0}, {250, 3}}));
        test("the least part less than a half, which is 499 of 1000", () -> {
            placesAre(glyphs(1), 7, new int[][] {{357, 2}, {-643, -5}});
            placesAre(glyphs(1), 19, new int[][] {{-79, -2}, {21, 0}});
        });
        test("halves below 0, and one unit less", () -> placesAre(glyphs(1), 10,
                new int[][] {{-50, 0}, {-51, -1}, {-49, 0}, {-150, -1}, {-151, -2}, {-250, -2}}));
        test("on the smallest and on the greatest grid", () -> {
            placesAre(glyphs(1), 6, new int[][] {{83, 0}, {84, 1}, {250, 2}, {2000, 12}, {-1000, -6}, {-84, -1}});
            placesAre(glyphs(1), 60, new int[][] {{8, 0}, {9, 1}, {25, 2}, {2000, 120}, {-1000, -60}, {-9, -1}});
        });
        test("lengths of stems of a half, and one unit less", () -> {
            answers(2, stems(0, 150), x -> x.place(0, 10, 150));
            answers(1, stems(0, 149), x -> x.place(0, 10, 149));
            answers(6, stems(430, 580), x -> x.place(0, 10, 580));
        });
    }

    private void descriptionOfPlaces() {
        description("Grids");
        sentence(PLACE);
        test("a left end without a stem before, also below 0", () -> {
            placesAre(stems(49, 100), 10, new int[][] {{49, 0}});
            placesAre(stems(50, 100), 10, new int[][] {{50, 1}});
            placesAre(stems(-200, -100), 10, new int[][] {{-200, -2}});
        });
        test("a left end that would lie at the right end before, and one that lies one pixel more anyway", () -> {
            placesAre(stems(0, 100, 149, 200), 10, new int[][] {{149, 2}});
            placesAre(stems(0, 100, 150, 200), 10, new int[][] {{150, 2}});
            placesAre(stems(0, 100, 250, 300), 10, new int[][] {{250, 3}});
        });
        test("a left end that would lie left of the right end before", () ->
                placesAre(stems(0, 10, 11, 12), 10, new int[][] {{0, 0}, {10, 1}, {11, 2}, {12, 3}}));
        test("four stems, each of which shoves the next one", () ->
                placesAre(FOUR, 10,
                        new int[][] {{20, 0}, {30, 1}, {31, 2}, {32, 3}, {33, 4}, {160, 5}, {700, 7}, {790, 8}}));
        test("four stems on the smallest grid, each of which shoves the next one", () ->
                placesAre(stems(0, 1, 2, 3, 4, 5, 6, 7), 6,
                        new int[][] {{0, 0}, {1, 1}, {2, 2}, {3, 3}, {4, 4}, {5, 5}, {6, 6}, {7, 7}, {8, 7}}));
        test("a right end by the length and not by its own rounded value", () -> {
            placesAre(stems(440, 560), 10, new int[][] {{440, 4}, {560, 5}});
            placesAre(stems(360, 540), 10, new int[][] {{360, 4}, {540, 6}});
        });
        test("a length of less than half a pixel counts 1, also left of 0", () -> {
            placesAre(stems(0, 49), 10, new int[][] {{49, 1}});
            placesAre(stems(0, 1), 6, new int[][] {{1, 1}});
            placesAre(stems(-200, -199), 10, new int[][] {{-200, -2}, {-199, -1}});
        });
        test("a length of half a pixel and of one counts 1", () -> {
            placesAre(stems(0, 50), 10, new int[][] {{50, 1}});
            placesAre(stems(-200, -100), 10, new int[][] {{-100, -1}});
        });
        test("the longest stem", () -> placesAre(stems(-200, 1200), 60, new int[][] {{-200, -12}, {1200, 72}}));
    }

    private void descriptionOfOtherPlaces() {
        description("Grids");
        sentence(PLACE);
        test("no stem has an end that is less: left of the first one, by one unit and by more, and no stem", () -> {
            placesAre(FOUR, 10, new int[][] {{19, 0}, {-60, -1}, {-1000, -10}});
            placesAre(stems(51, 52), 10, new int[][] {{50, 1}, {51, 1}});
            placesAre(glyphs(1), 10, new int[][] {{19, 0}, {2000, 20}});
        });
        test("a left end is nearest: inside a stem, from one unit right of it to one unit left of its right end", () ->
                placesAre(FOUR, 10, new int[][] {{21, 0}, {29, 0}, {34, 4}, {49, 4}, {50, 5}, {150, 6}, {159, 6},
                    {701, 7}, {750, 8}, {789, 8}}));
        test("a right end is nearest: behind a stem, from one unit right of it to one unit left of the next one", () ->
                placesAre(FOUR, 10, new int[][] {{161, 5}, {249, 5}, {250, 6}, {699, 10}}));
        test("a right end is nearest: behind the last one", () ->
                placesAre(FOUR, 10, new int[][] {{791, 8}, {850, 9}, {2000, 20}}));
        test("in the one unit between two stems", () ->
                placesAre(stems(0, 10, 12, 20), 10, new int[][] {{11, 1}, {12, 2}, {21, 3}}));
        test("a stem of another glyph does not matter", () -> {
            Calls two = FOUR.then(x -> x.addGlyph('B'));
            answers(0, two, x -> x.place(1, 10, 31));
            answers(2, two, x -> x.place(1, 10, 160));
        });
        test("a stem that was removed does not matter", () ->
                placesAre(stems(0, 1, 2, 3).then(x -> x.removeStem(0, 0)), 10, new int[][] {{1, 0}, {2, 0}, {3, 1}}));
    }

    private void descriptionOfMiddles() {
        description("Pixels");
        sentence("Pixel i,k of a grid of size n has its middle at the x (2 * i + 1) * 500 / n and the y (2 * k + "
                + "1) * 500 / n, exactly.");
        // The middles of column and row 4 on a grid of 7 lie at 4500 / 7, which is 642.857..
        test("the y, between two units", () -> {
            pixelsAre(box(0, 643, 1000, 100), 7, new int[][] {{3, 4, 0}});
            pixelsAre(box(0, 642, 1000, 100), 7, new int[][] {{3, 4, 1}});
            pixelsAre(box(0, 543, 1000, 100), 7, new int[][] {{3, 4, 1}});
            pixelsAre(box(0, 542, 1000, 100), 7, new int[][] {{3, 4, 0}});
        });
        test("the x, between two units", () -> {
            pixelsAre(box(643, 0, 100, 1000), 7, new int[][] {{4, 3, 0}});
            pixelsAre(box(642, 0, 100, 1000), 7, new int[][] {{4, 3, 1}});
            pixelsAre(box(543, 0, 100, 1000), 7, new int[][] {{4, 3, 1}});
            pixelsAre(box(542, 0, 100, 1000), 7, new int[][] {{4, 3, 0}});
        });
        test("a corner less than a unit above and below the middle", () -> {
            pixelsAre(read("A(500,643 1000,1000 0,1000)"), 7, new int[][] {{1, 4, 0}, {2, 4, 0}});
            pixelsAre(read("A(500,642 1000,0 0,0)"), 7, new int[][] {{1, 4, 0}, {2, 4, 0}});
            pixelsAre(read("A(500,642 1000,1000 0,1000)"), 7, new int[][] {{2, 4, 0}, {3, 4, 1}});
            pixelsAre(read("A(500,643 1000,0 0,0)"), 7, new int[][] {{2, 4, 0}, {3, 4, 1}});
        });
        test("below 0", () -> {
            // The middle of -1 on a grid of 6 lies at -83.33..
            pixelsAre(box(-84, 0, 100, 1000), 6, new int[][] {{-1, 0, 1}, {-2, 0, 0}});
            pixelsAre(box(-83, 0, 100, 1000), 6, new int[][] {{-1, 0, 0}});
            pixelsAre(box(0, -84, 1000, 100), 6, new int[][] {{0, -1, 1}, {0, -2, 0}});
            pixelsAre(box(0, -83, 1000, 100), 6, new int[][] {{0, -1, 0}});
        });
        test("on the greatest grid", () ->
                pixelsAre(box(8, 25, 1, 9), 60, new int[][] {{0, 1, 1}, {0, 0, 0}, {1, 1, 0}}));
    }

    private void descriptionOfBlack() {
        description("Pixels");
        sentence(BLACK);
        // On a grid of 10 the middles lie at 50, 150, 250, ..
        test("a middle on the lower, upper, left and right edge of a box", () -> {
            pixelsAre(box(0, 50, 100, 50), 10, new int[][] {{0, 0, 1}});
            pixelsAre(box(0, 0, 100, 50), 10, new int[][] {{0, 0, 0}});
            pixelsAre(box(50, 0, 50, 100), 10, new int[][] {{0, 0, 1}});
            pixelsAre(box(0, 0, 50, 100), 10, new int[][] {{0, 0, 0}});
        });
        test("one unit beside each edge", () -> {
            pixelsAre(box(0, 51, 100, 50), 10, new int[][] {{0, 0, 0}});
            pixelsAre(box(0, 0, 100, 51), 10, new int[][] {{0, 0, 1}});
            pixelsAre(box(51, 0, 50, 100), 10, new int[][] {{0, 0, 0}});
            pixelsAre(box(0, 0, 51, 100), 10, new int[][] {{0, 0, 1}});
        });
        test("a middle on a corner", () -> pixelsAre(box(50, 50, 100, 100), 10,
                new int[][] {{0, 0, 1}, {1, 0, 0}, {0, 1, 0}, {1, 1, 0}, {-1, 0, 0}, {0, -1, 0}}));
        test("crossed once, twice and three times", () -> {
            Calls scene = box(0, 0, 1000, 300).then(x -> {
                x.addContour(0, 200, 0, 800, 200);
                x.addContour(0, 400, 0, 100, 100);
            });
            pixelsAre(scene, 10,
                    new int[][] {{0, 0, 1}, {2, 0, 0}, {4, 0, 1}, {5, 0, 0}, {4, 1, 0}, {4, 2, 1}, {4, 3, 0}});
        });
        test("contours of both directions are crossed the same way", () -> {
            pixelsAre(read("A(0,0 0,100 100,100 100,0)"), 10, new int[][] {{0, 0, 1}});
            pixelsAre(read("A(0,0 0,100 100,100 100,0)(0,0 100,0 100,100 0,100)"), 10, new int[][] {{0, 0, 0}});
        });
        test("a corner at the height of the middle: a side that goes on, a valley and a peak", () -> {
            pixelsAre(read("A(100,50 0,100 0,0)"), 10, new int[][] {{0, 0, 1}});
            pixelsAre(read("A(0,0 100,0 60,50 100,100 0,100)"), 10, new int[][] {{0, 0, 1}});
            pixelsAre(read("A(70,50 100,100 60,100)"), 10, new int[][] {{0, 0, 0}});
            pixelsAre(read("A(70,50 100,0 60,0)"), 10, new int[][] {{0, 0, 0}});
        });
        test("a level side at the height of the middle is not crossed", () -> {
            pixelsAre(read("A(60,50 100,50 100,100)"), 10, new int[][] {{0, 0, 0}});
            pixelsAre(read("A(60,50 100,50 100,0)"), 10, new int[][] {{0, 0, 0}});
            pixelsAre(read("A(0,0 60,0 60,50 100,50 100,100 0,100)"), 10, new int[][] {{0, 0, 1}});
        });
        test("an empty glyph is never crossed", () -> pixelsAre(glyphs(1), 10, new int[][] {{0, 0, 0}, {-1, 3, 0}}));
        test("a contour of another glyph does not matter, nor points that a text has taken away", () -> {
            answers(0, FURNISHED, x -> bit(x.isBlack(2, 10, 1, 1)));
            Calls between = glyphs(3).then(x -> {
                for (int i = 0; i < 9; i++) {
                    x.addContour(i / 3, 100 * i, 0, 100, 100);
                }
            });
            for (int i = 0; i < 9; i++) {
                int column = i;
                answers(i / 3 == 1 ? 1 : 0, between, x -> bit(x.isBlack(1, 10, column, 0)));
            }
            pixelsAre(read("A(0,0 0,0 0,0 900,0 900,900 0,900)").then(read("A(0,0 300,0 0,300)")), 10,
                    new int[][] {{0, 0, 1}, {3, 3, 0}, {0, 4, 0}, {1, 0, 1}});
        });
    }

    private void descriptionOfSlantedSides() {
        description("Pixels");
        sentence(BLACK);
        test("the middle on a slanted side, of both slants and directions", () -> {
            int[][] left = {{0, 0, 1}, {1, 0, 1}, {2, 0, 0}, {1, 1, 0}, {0, 2, 0}};
            pixelsAre(read("A(0,0 300,0 0,300)"), 10, left);
            pixelsAre(read("A(0,0 0,300 300,0)"), 10, left);
            int[][] right = {{0, 0, 1}, {1, 0, 1}, {2, 0, 1}, {1, 2, 0}, {2, 2, 1}};
            pixelsAre(read("A(0,0 300,0 300,300)"), 10, right);
            pixelsAre(read("A(0,0 300,300 300,0)"), 10, right);
        });
        test("by less than a unit left and right of the middle", () -> {
            // The middle of pixel 1,1 on a grid of 7 lies at 1500 / 7, twice which is 428.57..
            pixelsAre(read("A(0,0 429,0 0,429)"), 7, new int[][] {{1, 1, 1}});
            pixelsAre(read("A(0,0 428,0 0,428)"), 7, new int[][] {{1, 1, 0}});
        });
        test("exactly on the middle, between units, and beside it by less than 1 / 700", () -> {
            // The side from 214,0 to 215,750 meets the height 1500 / 7 at 1500 / 7.
            pixelsAre(read("A(0,0 214,0 215,749 0,749)"), 7, new int[][] {{1, 1, 1}});
            pixelsAre(read("A(0,0 214,0 215,750 0,750)"), 7, new int[][] {{1, 1, 0}});
            pixelsAre(read("A(0,0 214,0 215,751 0,751)"), 7, new int[][] {{1, 1, 0}});
        });
        test("as far as coordinates allow", () -> {
            pixelsAre(read("A(-200,-200 1200,-200 1200,1200)"), 60,
                    new int[][] {{71, 0, 1}, {0, 0, 1}, {0, 1, 0}, {1, 0, 1}});
            pixelsAre(read("A(-200,-200 1200,1199 -200,1200)"), 60,
                    new int[][] {{71, 71, 1}, {72, 71, 0}, {71, 70, 0}});
        });
        sentence("Stems do not matter for pixels.");
        test("stems that shove one another", () -> {
            Calls scene = box(50, 0, 100, 100);
            Calls stemmed = scene.then(x -> {
                x.addStem(0, 50, 60);
                x.addStem(0, 61, 150);
            });
            pixelsAre(stemmed, 10, new int[][] {{0, 0, 1}, {1, 0, 0}, {2, 0, 0}});
            answers(1, stemmed, x -> x.blackPixels(0, 10));
        });
    }

    // ---- promises 21 to 23 ----

    private void addStem() {
        promise(21);
        sentence("Adds a stem.");
        test("with both ends, and those beside it stay", () -> {
            Calls scene = FURNISHED.then(x -> x.addStem(0, 100, 200));
            answersEach(numbers(10, 90, 100, 200, 300, 390), scene, (x, i) -> x.stem(0, i / 2, i % 2 == 1));
            answers(30, scene, x -> x.stem(1, 0, false));
        });
        test("to an empty glyph, and to the last of 24", () -> {
            answers(200, FURNISHED.then(x -> x.addStem(2, 100, 200)), x -> x.stem(2, 0, true));
            answers(2, FULL.then(x -> x.addStem(23, 21, 22)), x -> x.glyph(23, 8));
            answers(1, FULL.then(x -> x.addStem(23, 21, 22)), x -> x.glyph(22, 8));
        });
        sentence("Returns the number of the stem.");
        test("left of all, between two, right of all", () -> {
            answers(0, FURNISHED, x -> x.addStem(0, -200, 9));
            answers(1, FURNISHED, x -> x.addStem(0, 91, 299));
            answers(2, FURNISHED, x -> x.addStem(0, 391, 1200));
        });
        test("the first one and the fourth one", () -> {
            answers(0, FURNISHED, x -> x.addStem(2, 5, 6));
            answers(3, stems(0, 1, 2, 3, 4, 5), x -> x.addStem(0, 6, 7));
            answers(0, stems(0, 1, 2, 3, 4, 5), x -> x.addStem(0, -2, -1));
        });
    }

    private void endsOfAddStem() {
        promise(21);
        sentence("`from`: its left end, -200 to 1200");
        test("-200 and 1199, for 1200 has no greater end, and no int beyond", () ->
                takesOnly(-200, 1199, ARGUMENT, FURNISHED, (x, from) -> x.addStem(2, from, 1200)));
        test("1200 with an end beyond", () -> refuses(ARGUMENT, FURNISHED, x -> x.addStem(2, 1200, 1201)));
        sentence("`to`: its right end, -200 to 1200");
        test("-199, for -200 has no smaller end, and 1200, and no int beyond", () ->
                takesOnly(-199, 1200, ARGUMENT, FURNISHED, (x, to) -> x.addStem(2, -200, to)));
        test("-200 with an end beyond", () -> refuses(ARGUMENT, FURNISHED, x -> x.addStem(2, -201, -200)));
        sentence("Throws `IllegalArgumentException` if an end is out of range or from is not less than to");
        test("one unit beyond each end, and far ones", () -> refuses(ARGUMENT, FURNISHED,
                x -> x.addStem(2, -201, 0), x -> x.addStem(2, 0, 1201), x -> x.addStem(2, MIN, MAX),
                x -> x.addStem(2, MIN, 0), x -> x.addStem(2, 0, MAX)));
        test("equal ends, one more and the ends of the range", () -> refuses(ARGUMENT, FURNISHED,
                x -> x.addStem(2, 5, 5), x -> x.addStem(2, 6, 5), x -> x.addStem(2, 1200, -200)));
        test("one less, and the whole range", () -> {
            answers(0, FURNISHED, x -> x.addStem(2, 4, 5));
            answers(0, FURNISHED, x -> x.addStem(2, -200, 1200));
        });
    }

    private void refusedStems() {
        promise(21);
        sentence("Throws `IndexOutOfBoundsException` if there is no such glyph");
        test("one beyond the last, -1, far ones, and 0 of none", () ->
                needsGlyph((x, glyph) -> x.addStem(glyph, 100, 200)));
        sentence("Throws `IllegalStateException` if the glyph has 4 stems or this one touches or overlaps one of "
                + "them");
        test("it has 3, and 4", () -> {
            answers(3, stems(0, 1, 2, 3, 4, 5), x -> x.addStem(0, 900, 950));
            refuses(STATE, FOUR, x -> x.addStem(0, 900, 950), x -> x.addStem(0, -200, -100));
        });
        test("another glyph has 4", () -> answers(0, FOUR.then(x -> x.addGlyph('B')), x -> x.addStem(1, 25, 26)));
        test("touches it from the left and from the right", () -> refuses(STATE, FURNISHED,
                x -> x.addStem(0, 0, 10), x -> x.addStem(0, 90, 100), x -> x.addStem(0, 200, 300),
                x -> x.addStem(0, 390, 400), x -> x.addStem(0, 90, 300)));
        test("one unit away from it on both sides", () -> {
            answers(0, FURNISHED, x -> x.addStem(0, 0, 9));
            answers(1, FURNISHED, x -> x.addStem(0, 91, 299));
            answers(2, FURNISHED, x -> x.addStem(0, 391, 400));
        });
        test("overlaps it: by one unit, inside, around, the same one, two of them", () -> refuses(STATE, FURNISHED,
                x -> x.addStem(0, 0, 11), x -> x.addStem(0, 89, 100), x -> x.addStem(0, 20, 30),
                x -> x.addStem(0, 0, 100), x -> x.addStem(0, 10, 90), x -> x.addStem(0, 50, 350),
                x -> x.addStem(0, -200, 1200)));
        test("after removeStem there is room", () -> {
            answers(0, FURNISHED.then(x -> x.removeStem(0, 0)), x -> x.addStem(0, 90, 100));
            answers(3, FOUR.then(x -> x.removeStem(0, 3)), x -> x.addStem(0, 900, 950));
        });
    }

    private void removeStem() {
        promise(22);
        sentence("Removes a stem.");
        test("the first, a middle and the last one; those to its right have smaller numbers then", () -> {
            answersEach(numbers(31, 32, 33, 160, 700, 790), FOUR.then(x -> x.removeStem(0, 0)),
                    (x, i) -> x.stem(0, i / 2, i % 2 == 1));
            answersEach(numbers(20, 30, 33, 160, 700, 790), FOUR.then(x -> x.removeStem(0, 1)),
                    (x, i) -> x.stem(0, i / 2, i % 2 == 1));
            answersEach(numbers(20, 30, 31, 32, 33, 160), FOUR.then(x -> x.removeStem(0, 3)),
                    (x, i) -> x.stem(0, i / 2, i % 2 == 1));
        });
        test("the only one", () -> {
            answers(0, FURNISHED.then(x -> x.removeStem(1, 0)), x -> x.glyph(1, 8));
            answers(2, FURNISHED.then(x -> x.removeStem(1, 0)), x -> x.glyph(0, 8));
        });
        sentence("Returns its length.");
        test("the least and the greatest", () -> {
            answers(1, FOUR, x -> x.removeStem(0, 1));
            answers(1400, stems(-200, 1200), x -> x.removeStem(0, 0));
        });
        test("one after the other", () -> answersInTurn(numbers(10, 1, 127, 90), FOUR, x -> x.removeStem(0, 0)));
        sentence("Throws `IndexOutOfBoundsException` if there is no such glyph or stem");
        test("a glyph beyond the last, -1, far ones, and 0 of none", () ->
                needsGlyph((x, glyph) -> x.removeStem(glyph, 0)));
        test("stems 0 and 1 of two, 0 to 3 of four, and no other one", () -> {
            takesOnly(0, 1, INDEX, FURNISHED, (x, stem) -> x.removeStem(0, stem));
            takesOnly(0, 3, INDEX, FOUR, (x, stem) -> x.removeStem(0, stem));
        });
        test("stem 0 of none, and of none any more", () -> {
            refuses(INDEX, FURNISHED, x -> x.removeStem(2, 0));
            refuses(INDEX, FURNISHED.then(x -> x.removeStem(1, 0)), x -> x.removeStem(1, 0));
        });
    }

    private void stem() {
        promise(23);
        sentence("Returns an end of a stem.");
        test("the ends of the range", () -> {
            answers(-200, stems(-200, 1200), x -> x.stem(0, 0, false));
            answers(1200, stems(-200, 1200), x -> x.stem(0, 0, true));
        });
        sentence("`isRight`: whether the right end is asked for");
        test("both", () -> answersEach(numbers(300, 390), FURNISHED, (x, i) -> x.stem(0, 1, i == 1)));
        test("both of the fourth stem of the last of 24 glyphs", () -> {
            Calls four = FULL.then(x -> {
                x.addStem(23, 30, 40);
                x.addStem(23, 50, 60);
                x.addStem(23, 70, 80);
            });
            answersEach(numbers(10, 20, 30, 40, 50, 60, 70, 80), four, (x, i) -> x.stem(23, i / 2, i % 2 == 1));
            answersEach(numbers(10, 20), four, (x, i) -> x.stem(22, 0, i == 1));
        });
        sentence("Returns its x.");
        test("of four stems", () -> answersEach(numbers(20, 30, 31, 32, 33, 160, 700, 790), FOUR,
                (x, i) -> x.stem(0, i / 2, i % 2 == 1)));
        sentence("Throws `IndexOutOfBoundsException` if there is no such glyph or stem");
        test("a glyph beyond the last, -1, far ones, and 0 of none", () ->
                needsGlyph((x, glyph) -> x.stem(glyph, 0, true)));
        test("stems 0 and 1 of two, 0 to 3 of four, and no other one", () -> {
            takesOnly(0, 1, INDEX, FURNISHED, (x, stem) -> x.stem(0, stem, false));
            takesOnly(0, 3, INDEX, FOUR, (x, stem) -> x.stem(0, stem, true));
        });
        test("stem 0 of none, and of none any more", () -> {
            refuses(INDEX, FURNISHED, x -> x.stem(2, 0, true));
            refuses(INDEX, FURNISHED.then(x -> x.removeStem(1, 0)), x -> x.stem(1, 0, false));
        });
    }

    // ---- promises 24 to 26 ----

    private void place() {
        promise(24);
        sentence("Returns the place of an x in a glyph on a grid.");
        test("with two stems, at all of their ends and beside them", () -> {
            // On a grid of 20: 0 to 2 (0.2, 1.6), 6 to 8 (6, 1.8).
            placesAre(FURNISHED, 20, new int[][] {{9, 0}, {10, 0}, {11, 0}, {90, 2}, {91, 2}, {299, 6}, {300, 6},
                {390, 8}, {391, 8}});
        });
        sentence("`x`: the x, -1000 to 2000");
        test("-1000 and 2000, and no int beyond", () ->
                takesOnly(-1000, 2000, ARGUMENT, FURNISHED, (x, where) -> x.place(0, 60, where)));
        sentence("Returns the place in pixels.");
        test("the least and the greatest one without stems", () -> {
            answers(-60, glyphs(1), x -> x.place(0, 60, -1000));
            answers(120, glyphs(1), x -> x.place(0, 60, 2000));
        });
        test("0 and below", () -> {
            answers(0, glyphs(1), x -> x.place(0, 6, -83));
            answers(-1, glyphs(1), x -> x.place(0, 6, -84));
        });
        sentence("Throws `IndexOutOfBoundsException` if there is no such glyph");
        test("one beyond the last, -1, far ones, and 0 of none", () -> needsGlyph((x, glyph) -> x.place(glyph, 10, 5)));
        sentence("Throws `IllegalArgumentException` if the size or x is out of range");
        test("6 and 60 are taken; 5, 61 and all beyond are not", () ->
                takesOnly(6, 60, ARGUMENT, FURNISHED, (x, size) -> x.place(2, size, 0)));
        test("-1000 and 2000 are taken; -1001, 2001 and all beyond are not", () ->
                takesOnly(-1000, 2000, ARGUMENT, FURNISHED, (x, where) -> x.place(2, 6, where)));
    }

    private void isBlack() {
        promise(25);
        sentence("Returns whether a pixel of a glyph is black.");
        test("the lowest left and the highest right pixel of a box", () -> pixelsAre(box(100, 200, 300, 400), 10,
                new int[][] {{1, 2, 1}, {0, 2, 0}, {1, 1, 0}, {3, 5, 1}, {4, 5, 0}, {3, 6, 0}}));
        sentence("`column`: the column i of the pixel, -100 to 100");
        test("-100 and 100, and no int beyond", () -> {
            takesOnly(-100, 100, ARGUMENT, FURNISHED, (x, column) -> bit(x.isBlack(0, 60, column, 3)));
            takesOnly(-100, 100, ARGUMENT, FURNISHED, (x, column) -> bit(x.isBlack(2, 6, column, 0)));
        });
        test("-100 and 100 lie beside all contours, also on the greatest grid", () ->
                pixelsAre(box(-200, -200, 1400, 1400), 60,
                        new int[][] {{-100, 0, 0}, {100, 0, 0}, {-12, 0, 1}, {-13, 0, 0}, {71, 0, 1}, {72, 0, 0}}));
        sentence("`row`: the row k of the pixel, -100 to 100");
        test("-100 and 100, and no int beyond", () -> {
            takesOnly(-100, 100, ARGUMENT, FURNISHED, (x, row) -> bit(x.isBlack(0, 60, 3, row)));
            takesOnly(-100, 100, ARGUMENT, FURNISHED, (x, row) -> bit(x.isBlack(2, 6, 0, row)));
        });
        test("-100 and 100 lie above and below all contours, also on the greatest grid", () ->
                pixelsAre(box(-200, -200, 1400, 1400), 60,
                        new int[][] {{0, -100, 0}, {0, 100, 0}, {0, -12, 1}, {0, -13, 0}, {0, 71, 1}, {0, 72, 0}}));
        sentence("Returns whether it is black.");
        test("it is, it is not, and it is not in an empty glyph", () -> {
            answers(1, FURNISHED, x -> bit(x.isBlack(0, 10, 3, 3)));
            answers(0, FURNISHED, x -> bit(x.isBlack(0, 10, 4, 3)));
            answers(0, FURNISHED, x -> bit(x.isBlack(2, 10, 3, 3)));
        });
        sentence("Throws `IndexOutOfBoundsException` if there is no such glyph");
        test("one beyond the last, -1, far ones, and 0 of none", () ->
                needsGlyph((x, glyph) -> bit(x.isBlack(glyph, 10, 0, 0))));
        sentence("Throws `IllegalArgumentException` if an argument is out of range");
        test("sizes 6 and 60 are taken; 5, 61 and all beyond are not", () ->
                takesOnly(6, 60, ARGUMENT, FURNISHED, (x, size) -> bit(x.isBlack(0, size, 0, 0))));
        test("columns and rows of -101 and 101, of an empty glyph, too", () -> refuses(ARGUMENT, FURNISHED,
                x -> bit(x.isBlack(0, 6, -101, 0)), x -> bit(x.isBlack(0, 6, 101, 0)),
                x -> bit(x.isBlack(0, 6, 0, -101)), x -> bit(x.isBlack(2, 6, 0, 101))));
    }

    private void blackPixels() {
        promise(26);
        sentence("Returns the number of black pixels of a glyph in the columns and rows from -5 to 29.");
        test("column -5 and row -5, which are the least that contours reach", () -> {
            answers(24, box(-200, 0, 50, 1000), x -> x.blackPixels(0, 24));
            answers(24, box(0, -200, 1000, 50), x -> x.blackPixels(0, 24));
        });
        test("column 28 and row 28, which are the greatest that contours reach", () -> {
            answers(24, box(1150, 0, 50, 1000), x -> x.blackPixels(0, 24));
            answers(24, box(0, 1150, 1000, 50), x -> x.blackPixels(0, 24));
        });
        test("as many as isBlack tells there", () -> {
            Calls scene = read("A(-150,-99 900,37 411,1190 -20,600)(100,0 7,500 600,513)");
            for (int size : new int[] {6, 7, 23, 24}) {
                int count = 0;
                for (int row = -5; row <= 29; row++) {
                    Designer asked = scene.made();
                    for (int column = -5; column <= 29; column++) {
                        count += bit(asked.isBlack(0, size, column, row));
                    }
                }
                answers(count, scene, x -> x.blackPixels(0, size));
            }
        });
        sentence("`size`: the size of the grid, 6 to 24");
        test("6 and 24, and no int beyond", () ->
                takesOnly(6, 24, ARGUMENT, FURNISHED, (x, size) -> x.blackPixels(0, size)));
        sentence("Returns the number.");
        test("0 for an empty glyph, and for one that lies between the middles", () -> {
            answers(0, FURNISHED, x -> x.blackPixels(2, 6));
            answers(0, box(51, 51, 99, 99), x -> x.blackPixels(0, 10));
        });
        test("all that contours can reach, on the smallest and on the greatest grid", () -> {
            answers(8 * 8, box(-200, -200, 1400, 1400), x -> x.blackPixels(0, 6));
            answers(34 * 34, box(-200, -200, 1400, 1400), x -> x.blackPixels(0, 24));
        });
        test("without those that are crossed twice", () -> answers(34 * 34 - 24 * 24,
                box(-200, -200, 1400, 1400).then(x -> x.addContour(0, 0, 0, 1000, 1000)), x -> x.blackPixels(0, 24)));
        sentence("Throws `IndexOutOfBoundsException` if there is no such glyph");
        test("one beyond the last, -1, far ones, and 0 of none", () ->
                needsGlyph((x, glyph) -> x.blackPixels(glyph, 10)));
        sentence("Throws `IllegalArgumentException` if the size is out of range");
        test("5 and 25, also of an empty glyph", () -> refuses(ARGUMENT, FURNISHED, x -> x.blackPixels(0, 5),
                x -> x.blackPixels(0, 25), x -> x.blackPixels(2, 5), x -> x.blackPixels(2, 60)));
    }
}
