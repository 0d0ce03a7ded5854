/**
 * The sentences of 'Terms' that name a bound: each at the bound, just within it and just beyond it.
 * The sentence stands at the head of its test.
 */
final class TermsTest {
    private static final int UNKNOWN = BoulderLand.UNKNOWN, OUTSIDE = BoulderLand.OUTSIDE, STATE = BoulderLand.STATE,
        FULL = BoulderLand.FULL, NONE = BoulderLand.NONE;
    // the longest way through 6 by 6 CELLS that nowhere lies beside itself: DIST 0 to 23
    private static final int[] LONG_WAY = {0, 1, 2, 3, 4, 5, 11, 17, 16, 22, 21, 20, 14, 13, 12, 18, 24, 25, 31, 32, 33,
        34, 35, 29};

    private static String sentence;

    public static void main(String[] args) {
        landTerms();
        iceTerms();
        carryTerms();
        floodTerms();
        storyTerms();
        signTerms();
        bestTerms();
        unlikeTerms();
        lakeTerms();
        sunkTerms();
        layerTerms();
        manyCalls();
        Check.end();
    }

    private static void due(String call, int got, int want) {
        Check.due(sentence + ": " + call, got, want);
    }

    /** A land with these heights, row by row. */
    private static BoulderLand heights(int w, int... heights) {
        BoulderLand x = new BoulderLand();
        due("land", x.land(w, heights.length / w), heights.length);
        for (int c = 0; c < heights.length; c++) {
            due("cell", x.cell(c, 0, heights[c]), 0);
        }
        return x;
    }

    /** A land that is 99 high but for some CELLS, which are 0. */
    private static BoulderLand walls(int w, int h, int... low) {
        int[] heights = new int[w * h];
        java.util.Arrays.fill(heights, 99);
        for (int c : low) {
            heights[c] = 0;
        }
        return heights(w, heights);
    }

    private static void story(BoulderLand x, int slot, int... goes) {
        x.clear(slot);
        for (int i = 0; i < goes.length; i++) {
            due("then", x.then(slot, goes[i]), i + 1);
        }
    }

    // ---- the land

    private static void landTerms() {
        sides();
        firstLand();
        numbersOfCells();
        heightsAndRocks();
        edge();
        directions();
        stones();
    }

    private static void sides() {
        sentence = "THE LAND has W by H CELLS (2 to 6 each)";
        for (int w = 1; w <= 7; w++) {
            for (int h = 1; h <= 7; h++) {
                BoulderLand x = new BoulderLand();
                boolean is = w >= 2 && w <= 6 && h >= 2 && h <= 6;
                due("land " + w + " " + h, x.land(w, h), is ? w * h : OUTSIDE);
                int cells = is ? w * h : 16;
                due("cells", x.count(0), cells);
                due("last cell", x.cell(cells - 1, 0, 1), 0);
                due("no cell", x.cell(cells, 0, 1), UNKNOWN);
            }
        }
    }

    private static void firstLand() {
        sentence = "4 by 4 at first";
        BoulderLand x = new BoulderLand();
        due("cells", x.count(0), 16);
        due("ice", x.ice(3, 50, 1, 0), 0);
        due("7 is below 3", x.by(0, 7, 1), 1);
        due("4 is not beside 3, a row lower", x.by(0, 4, 1), 4);
        due("12 is farthest", x.by(0, 12, 1), 6);
    }

    private static void numbersOfCells() {
        sentence = "CELL y W + x; CELLS are beside one another by a side";
        for (int w = 2; w <= 6; w++) {
            for (int h = 2; h <= 6; h++) {
                for (int source = 0; source < w * h; source += 3) {
                    waysFrom(w, h, source);
                }
            }
        }
    }

    // on flat land DIST is how many sides lie between: neither corners nor the ends of rows are beside
    private static void waysFrom(int w, int h, int source) {
        BoulderLand x = new BoulderLand();
        x.land(w, h);
        x.ice(source, 199, 1, 0);
        for (int c = 0; c < w * h; c++) {
            int sides = Math.abs(c % w - source % w) + Math.abs(c / w - source / w);
            due(w + " by " + h + " from " + source + " to " + c, x.by(0, c, 1), sides);
        }
    }

    private static void heightsAndRocks() {
        sentence = "with a HEIGHT (0 to 99) and a ROCK (0 to 5) each (0 at first)";
        BoulderLand x = new BoulderLand();
        for (int c = 0; c < 16; c++) {
            due("first height", x.cell(c, 0, 99), 0);
            due("first rock", x.cell(c, 1, 5), 0);
        }
        int[] heights = {-1, 0, 1, 98, 99, 100};
        for (int v : heights) {
            BoulderLand y = new BoulderLand();
            boolean is = v >= 0 && v <= 99;
            due("height " + v, y.cell(5, 0, v), is ? 0 : OUTSIDE);
            due("it is " + v, y.cell(5, 0, 7), is ? v : 0);
            due("rock is another number", y.cell(5, 1, 0), 0);
        }
        for (int v = -1; v <= 6; v++) {
            BoulderLand y = new BoulderLand();
            boolean is = v >= 0 && v <= 5;
            due("rock " + v, y.cell(5, 1, v), is ? 0 : OUTSIDE);
            due("it is " + v, y.cell(5, 1, 2), is ? v : 0);
            due("height is another number", y.cell(5, 0, 0), 0);
        }
    }

    private static void edge() {
        sentence = "EDGE are those with fewer than four beside";
        for (int w = 2; w <= 6; w++) {
            for (int h = 2; h <= 6; h++) {
                for (int c = 0; c < w * h; c++) {
                    boolean inside = c % w > 0 && c % w < w - 1 && c / w > 0 && c / w < h - 1;
                    BoulderLand x = walls(w, h, c);
                    due("flood", x.flood(99), 0);
                    due(w + " by " + h + " cell " + c + " is flooded", x.by(0, c, 0), inside ? 0 : 1);
                    due("ice that covers nothing", x.ice(c == 0 ? 1 : 0, 1, 1, 0), 1);
                    due("water in " + c + " runs out", x.level(1, c), inside ? 99 : 0);
                }
            }
        }
    }

    private static void directions() {
        sentence = "DIRECTIONS: 0 x more, 1 y more, 2 x less, 3 y less";
        int[] to = {8, 12, 6, 2};
        for (int direction = 0; direction < 4; direction++) {
            // 5 wide: around 7 lie 8, 12, 6, 2
            BoulderLand x = walls(5, 3, 7, to[direction]);
            due("ice", x.ice(7, 50, 1, 1), 0);
            due("flows", x.by(0, 7, 3), direction);
            due("brings", x.brings(0, 7, 1), to[direction]);
            story(x, 0, 0);
            for (int other = 0; other < 4; other++) {
                due("scratch", x.sign(0, 7, other, 1), other);
                due("scratched", x.explains(0, other), other == direction ? 1 : 0);
            }
            due("no direction", x.sign(0, 7, 4, 1), OUTSIDE);
            due("no direction", x.sign(0, 7, -1, 1), OUTSIDE);
        }
    }

    private static void stones() {
        sentence = "STONES 0 to 11: a CELL where it lies, a ROCK, a WEIGHT (1 to 9)";
        BoulderLand x = new BoulderLand();
        for (int i = 0; i < 12; i++) {
            due("before it is told", x.whence(0, i), UNKNOWN);
            due("stone", x.stone(15 - i, i % 6, i % 9 + 1), i);
            due("how many", x.count(1), i + 1);
            due("rock 0 is everywhere, the others nowhere", x.whence(0, i), i % 6 == 0 ? 1 : 0);
        }
        due("the thirteenth", x.stone(0, 0, 1), FULL);
        due("twelve", x.count(1), 12);
        due("there is no 12", x.dug(12, 0), UNKNOWN);
        for (int i = 0; i < 12; i++) {
            due("where it lies", x.dug(i, 0), 15 - i);
        }
        for (int weight = 0; weight <= 10; weight++) {
            due("weight " + weight, new BoulderLand().stone(15, 5, weight), weight >= 1 && weight <= 9 ? 0 : OUTSIDE);
        }
        for (int rock = -1; rock <= 6; rock++) {
            due("rock " + rock, new BoulderLand().stone(15, rock, 9), rock >= 0 && rock <= 5 ? 0 : OUTSIDE);
        }
        for (int c = -1; c <= 16; c++) {
            due("cell " + c, new BoulderLand().stone(c, 5, 9), c >= 0 && c <= 15 ? 0 : UNKNOWN);
        }
    }

    // ---- ice

    private static void iceTerms() {
        numbersOfGoes();
        numbersOfIce();
        coversSource();
        coversOn();
        notYetCovered();
        thick();
        flows();
        heap();
    }

    private static void numbersOfGoes() {
        sentence = "GOES 0 to 5, as they are told";
        BoulderLand x = new BoulderLand();
        for (int i = 0; i < 6; i++) {
            due("before it is told", x.covers(i), UNKNOWN);
            due("go", i % 2 == 0 ? x.ice(i, 9, 1, 1) : x.flood(9), i);
            due("how many", x.count(2), i + 1);
            due("of its kind", x.lake(i), i % 2 == 0 ? 0 : STATE);
        }
        due("the seventh", x.ice(0, 9, 1, 1), FULL);
        due("the seventh", x.flood(9), FULL);
        due("six", x.count(2), 6);
        due("there is no 6", x.covers(6), UNKNOWN);
        for (int i = 0; i < 6; i += 2) {
            due("its own source", x.by(i, i, 1), 0);
        }
    }

    private static void numbersOfIce() {
        sentence = "ICE: a SOURCE (a CELL), a TOP (1 to 199), a FALL (1 to 20), STEPS (0 to 20)";
        int[] tops = {0, 1, 2, 198, 199, 200};
        for (int top : tops) {
            BoulderLand x = new BoulderLand();
            boolean is = top >= 1 && top <= 199;
            due("top " + top, x.ice(5, top, 1, 1), is ? 0 : OUTSIDE);
            due("thick", x.by(0, 5, 2), is ? top : UNKNOWN);
        }
        for (int fall = 0; fall <= 21; fall++) {
            BoulderLand x = new BoulderLand();
            boolean is = fall >= 1 && fall <= 20;
            due("fall " + fall, x.ice(5, 100, fall, 1), is ? 0 : OUTSIDE);
            due("thick", x.by(0, 6, 2), is ? 100 - fall : UNKNOWN);
        }
        for (int steps = -1; steps <= 21; steps++) {
            BoulderLand x = new BoulderLand();
            boolean is = steps >= 0 && steps <= 20;
            due("steps " + steps, x.ice(0, 100, 1, steps), is ? 0 : OUTSIDE);
            due("a stone of weight 9", x.brings(0, 0, 9), is ? steps / 9 : UNKNOWN);
        }
        for (int c = -1; c <= 16; c++) {
            BoulderLand x = new BoulderLand();
            boolean is = c >= 0 && c <= 15;
            due("source " + c, x.ice(c, 1, 20, 0), is ? 0 : UNKNOWN);
            due("covers", x.covers(0), is ? 1 : UNKNOWN);
        }
    }

    private static void coversSource() {
        sentence = "It COVERS its SOURCE, if TOP is above the HEIGHT there, with DIST 0";
        int[] heights = {0, 1, 50, 98, 99};
        for (int height : heights) {
            for (int top = Math.max(1, height - 1); top <= height + 1; top++) {
                BoulderLand x = walls(3, 3, 4);
                x.cell(4, 0, height);
                due("ice", x.ice(4, top, 20, 0), 0);
                boolean is = top > height;
                due("height " + height + " top " + top, x.by(0, 4, 0), is ? 1 : 0);
                due("covers", x.covers(0), is ? 1 : 0);
                due("dist", x.by(0, 4, 1), is ? 0 : NONE);
                due("thick", x.by(0, 4, 2), is ? 1 : NONE);
            }
        }
    }

    private static void coversOn() {
        sentence = "each CELL beside one of DIST d, if TOP less FALL times (d and 1) is above its HEIGHT";
        for (int fall = 1; fall <= 20; fall += 19) {
            for (int d = 0; d < 5; d++) {
                int reach = 150 - fall * (d + 1);
                for (int height = reach - 1; height <= reach + 1; height++) {
                    // a row of 6, in which the cell of DIST d and 1 has the height; a wall under it
                    BoulderLand x = walls(6, 2, 0, 1, 2, 3, 4, 5);
                    int least = Math.min(99, height);
                    x.cell(d + 1, 0, least);
                    int top = 150 - (height - least);
                    due("ice", x.ice(0, top, fall, 0), 0);
                    boolean is = height < reach;
                    due("fall " + fall + " dist " + (d + 1) + " height " + height, x.by(0, d + 1, 0), is ? 1 : 0);
                    due("dist", x.by(0, d + 1, 1), is ? d + 1 : NONE);
                    due("before it", x.by(0, d, 1), d);
                }
            }
        }
        BoulderLand x = walls(6, 2, 0, 1, 2, 3, 4, 5);
        due("ice", x.ice(0, 5, 1, 0), 0);
        due("4 is above 0", x.by(0, 4, 2), 1);
        due("0 is not", x.by(0, 5, 0), 0);
        due("ice", x.ice(0, 6, 1, 0), 1);
        due("1 is", x.by(1, 5, 2), 1);
    }

    private static void notYetCovered() {
        sentence = "round by round, each CELL that is not yet COVERED";
        // two ways round a wall meet in 5: the short one counts
        BoulderLand x = heights(3,
            0, 0, 0,
            0, 99, 0,
            0, 0, 0);
        due("ice", x.ice(1, 90, 2, 0), 0);
        int[] dist = {1, 0, 1, 2, NONE, 2, 3, 4, 3};
        for (int c = 0; c < 9; c++) {
            due("dist " + c, x.by(0, c, 1), dist[c]);
        }
        // the short way is shut by its height: the long one counts
        x.cell(2, 0, 88);
        int[] longer = {1, 0, NONE, 2, NONE, 6, 3, 4, 5};
        for (int c = 0; c < 9; c++) {
            due("dist " + c, x.by(0, c, 1), longer[c]);
        }
    }

    private static void thick() {
        sentence = "THICK is it there: TOP less FALL times DIST less HEIGHT";
        BoulderLand x = heights(3,
            0, 9, 99,
            0, 0, 98);
        due("ice", x.ice(0, 199, 20, 0), 0);
        int[] thick = {199, 170, 60, 179, 159, 41};
        for (int c = 0; c < 6; c++) {
            due("thick " + c, x.by(0, c, 2), thick[c]);
        }
        due("ice", x.ice(5, 99, 1, 0), 1);
        due("the least", x.by(1, 5, 2), 1);
        due("no ice", x.by(1, 2, 2), NONE);
        due("98 less 0", x.by(1, 4, 2), 98);
    }

    private static void flows() {
        sentence = "It FLOWS to the CELL beside it that is COVERED with DIST one more (of like ones the least)";
        // from the middle all four are like: the least CELL is y less
        BoulderLand x = new BoulderLand();
        x.land(3, 3);
        due("ice", x.ice(4, 50, 1, 0), 0);
        int[] of = {3, 2, 0, 1};
        int[] cells = {1, 3, 5, 7};
        for (int i = 0; i < 4; i++) {
            due("the least of those left", x.by(0, 4, 3), of[i]);
            due("wall in " + cells[i], x.cell(cells[i], 0, 99), 0);
        }
        due("none left", x.by(0, 4, 3), NONE);
        due("a heap", x.by(0, 4, 4), 1);
        // beside a CELL of like DIST, or of less: not there
        BoulderLand y = heights(3,
            99, 0, 0,
            0, 0, 0);
        due("ice", y.ice(1, 50, 1, 0), 0);
        due("2 and 4 are of DIST 1; 2 flows to 5", y.by(0, 2, 3), 1);
        due("4 to 3, less than 5", y.by(0, 4, 3), 2);
        due("5 has but lesser ones", y.by(0, 5, 3), NONE);
        due("where it is not", y.by(0, 0, 3), NONE);
        // not to one that is beside and low, but not COVERED
        BoulderLand z = heights(3,
            0, 0, 0,
            99, 99, 99);
        due("ice", z.ice(0, 3, 1, 0), 0);
        due("to 1", z.by(0, 0, 3), 0);
        due("to 2", z.by(0, 1, 3), 0);
        due("ice", z.ice(0, 2, 1, 0), 1);
        due("1 is the last", z.by(1, 1, 3), NONE);
    }

    private static void heap() {
        sentence = "from where there is none it does not: there is a HEAP";
        BoulderLand x = heights(3,
            0, 0, 0,
            99, 99, 99);
        for (int top = 1; top <= 4; top++) {
            due("ice", x.ice(0, top, 1, 0), top - 1);
            for (int c = 0; c < 6; c++) {
                due("top " + top + " cell " + c, x.by(top - 1, c, 4), c == Math.min(top, 3) - 1 ? 1 : 0);
            }
        }
        due("ice that covers nothing", x.ice(3, 99, 1, 0), 4);
        for (int c = 0; c < 6; c++) {
            due("no heap in " + c, x.by(4, c, 4), 0);
        }
    }

    // ---- stones carried

    private static void carryTerms() {
        stepsByWeight();
        onlyWhereCovered();
    }

    private static void stepsByWeight() {
        sentence = "carried from CELL to CELL as ICE FLOWS, as many as STEPS by WEIGHT, cut, as long as it does";
        for (int steps = 0; steps <= 20; steps++) {
            BoulderLand x = walls(6, 6, LONG_WAY);
            due("ice", x.ice(0, 90, 1, steps), 0);
            due("all of the way", x.covers(0), 24);
            due("to its end", x.by(0, 29, 1), 23);
            for (int weight = 1; weight <= 9; weight++) {
                for (int at = 0; at < 24; at += 1 + weight) {
                    int to = Math.min(23, at + steps / weight);
                    due("steps " + steps + " weight " + weight + " from " + at, x.brings(0, LONG_WAY[at], weight),
                        LONG_WAY[to]);
                }
            }
        }
    }

    private static void onlyWhereCovered() {
        sentence = "A STONE in a CELL that is COVERED is carried";
        BoulderLand x = heights(4,
            0, 0, 0, 0,
            99, 99, 99, 99);
        due("ice", x.ice(0, 3, 1, 20), 0);
        due("to the last that is COVERED", x.brings(0, 0, 1), 2);
        due("in the last", x.brings(0, 2, 1), 2);
        due("just beyond", x.brings(0, 3, 1), 3);
        due("on the wall", x.brings(0, 4, 1), 4);
    }

    // ---- floods

    private static void floodTerms() {
        numbersOfFlood();
        hangsTogether();
        shifts();
        shiftsToLowest();
    }

    private static void numbersOfFlood() {
        sentence = "FLOOD: a LEVEL (1 to 99). It COVERS CELLS of HEIGHT below LEVEL";
        int[] levels = {-1, 0, 1, 2, 98, 99, 100};
        for (int level : levels) {
            BoulderLand x = heights(3,
                0, 1, 2,
                97, 98, 99);
            boolean is = level >= 1 && level <= 99;
            due("level " + level, x.flood(level), is ? 0 : OUTSIDE);
            int[] heights = {0, 1, 2, 97, 98, 99};
            int below = 0;
            for (int c = 0; c < 6; c++) {
                boolean wet = heights[c] < level;
                below += wet ? 1 : 0;
                due("cell " + c, x.by(0, c, 0), !is ? UNKNOWN : wet ? 1 : 0);
            }
            due("covers", x.covers(0), is ? below : UNKNOWN);
        }
    }

    private static void hangsTogether() {
        sentence = "that hang together, by such CELLS, with one of EDGE";
        // 7 is low and inside
        BoulderLand x = heights(5,
            50, 50, 50, 50, 50,
            50, 50, 3, 50, 50,
            50, 50, 50, 50, 50);
        due("flood", x.flood(10), 0);
        due("shut in", x.covers(0), 0);
        int[] gaps = {2, 12};
        for (int gap : gaps) {
            x.cell(gap, 0, 10);
            due("a gap as high as LEVEL", x.covers(0), 0);
            x.cell(gap, 0, 9);
            due("a gap just below it", x.covers(0), 2);
            x.cell(gap, 0, 50);
        }
        // 1 touches 7 by a corner only
        x.cell(1, 0, 0);
        due("the corner alone", x.covers(0), 1);
        due("not 7", x.by(0, 7, 0), 0);
        // 5 is inside: 4, at the end of its row, lets the water in
        BoulderLand y = heights(4,
            50, 50, 50, 50,
            50, 0, 50, 50,
            50, 50, 50, 50);
        due("flood", y.flood(1), 0);
        due("inside", y.covers(0), 0);
        y.cell(4, 0, 0);
        due("by 4", y.covers(0), 2);
        // a long way in
        BoulderLand z = walls(6, 6, LONG_WAY);
        due("flood", z.flood(1), 0);
        due("all of it", z.covers(0), 24);
    }

    private static void shifts() {
        sentence = "A STONE there of WEIGHT 1 or 2 is shifted once";
        BoulderLand x = heights(4,
            9, 6, 3, 0,
            99, 99, 99, 99);
        due("flood", x.flood(10), 0);
        for (int weight = 1; weight <= 9; weight++) {
            due("weight " + weight, x.brings(0, 0, weight), weight <= 2 ? 1 : 0);
        }
        due("on the wall", x.brings(0, 4, 1), 4);
        due("flood as high as the first", x.flood(9), 1);
        due("which it does not cover", x.brings(1, 0, 1), 0);
        due("but the next", x.brings(1, 1, 2), 2);
        due("the lowest stays", x.brings(1, 3, 1), 3);
    }

    private static void shiftsToLowest() {
        sentence = "to the CELL beside that is COVERED and lowest, if that is lower (of like ones the least)";
        BoulderLand x = heights(3,
            9, 5, 9,
            5, 5, 5,
            9, 5, 9);
        due("flood", x.flood(20), 0);
        due("all are like its own", x.brings(0, 4, 1), 4);
        x.cell(7, 0, 4);
        due("7 is just lower", x.brings(0, 4, 1), 7);
        x.cell(5, 0, 4);
        due("5 is as low, and less", x.brings(0, 4, 1), 5);
        x.cell(3, 0, 4);
        due("3 too", x.brings(0, 4, 1), 3);
        x.cell(1, 0, 4);
        due("1 too", x.brings(0, 4, 1), 1);
        x.cell(7, 0, 3);
        due("7 is lower still", x.brings(0, 4, 1), 7);
        x.cell(4, 0, 3);
        due("none is lower", x.brings(0, 4, 1), 4);
        due("a corner is not beside", x.brings(0, 0, 1), 1);
    }

    // ---- stories

    private static void storyTerms() {
        slots();
        unlikeGoes();
        whence();
    }

    private static void slots() {
        sentence = "SLOTS 0 to 2 hold one each (empty at first)";
        BoulderLand x = new BoulderLand();
        for (int i = 0; i < 4; i++) {
            x.flood(i + 1);
        }
        for (int slot = -1; slot <= 3; slot++) {
            boolean is = slot >= 0 && slot <= 2;
            due("empty " + slot, x.told(slot, 0), is ? NONE : UNKNOWN);
            due("none in " + slot, x.clear(slot), is ? 0 : UNKNOWN);
            due("then " + slot, x.then(slot, slot + 1), is ? 1 : UNKNOWN);
        }
        for (int slot = 0; slot <= 2; slot++) {
            due("its own", x.told(slot, 0), slot + 1);
            due("and no more", x.told(slot, 1), NONE);
        }
    }

    private static void unlikeGoes() {
        sentence = "A STORY is a row of unlike GOES, one behind the other";
        BoulderLand x = new BoulderLand();
        for (int i = 0; i < 6; i++) {
            // alike in all numbers, yet GOES of their own
            due("ice", x.ice(0, 9, 1, 1), i);
        }
        int[] order = {3, 0, 5, 1, 4, 2};
        for (int i = 0; i < 6; i++) {
            due("then", x.then(0, order[i]), i + 1);
            for (int k = 0; k <= i; k++) {
                due("it has it", x.then(0, order[k]), STATE);
                due("at its place", x.told(0, k), order[k]);
            }
            due("and no more", x.told(0, i + 1), NONE);
        }
        due("six ice of a step each", x.ends(0, 0, 1), 15);
        due("six", x.clear(0), 6);
        due("none", x.ends(0, 0, 1), 0);
    }

    private static void whence() {
        sentence = "WHENCE of a STONE: CELLS of its ROCK from which one of its WEIGHT ENDS where it lies";
        BoulderLand x = walls(6, 2, 0, 1, 2, 3, 4, 5);
        due("ice", x.ice(0, 50, 1, 4), 0);
        story(x, 0, 0);
        for (int c = 0; c < 6; c++) {
            due("rock", x.cell(c, 1, c % 2), 0);
        }
        due("weight 1", x.stone(5, 1, 1), 0);
        due("1, 3, 5", x.whence(0, 0), 3);
        due("the other rock", x.stone(5, 0, 1), 1);
        due("2 and 4", x.whence(0, 1), 2);
        due("weight 2", x.stone(5, 1, 2), 2);
        due("3 and 5", x.whence(0, 2), 2);
        due("weight 5", x.stone(5, 1, 5), 3);
        due("where it lies alone", x.whence(0, 3), 1);
        due("in 4, of the other rock", x.stone(4, 1, 5), 4);
        due("from nowhere", x.whence(0, 4), 0);
        due("in 4 with a step", x.stone(4, 1, 4), 5);
        due("from 3", x.from(0, 5, 0), 3);
        due("alone", x.whence(0, 5), 1);
    }

    // ---- signs

    private static void signTerms() {
        numbersOfSigns();
        scratch();
        heapSign();
        shell();
        bare();
        stoneSign();
        cross();
        costs();
    }

    private static void numbersOfSigns() {
        sentence = "SIGNS 0 to 11: a KIND, a CELL, an EXTRA and a WORTH (1 to 99)";
        BoulderLand x = new BoulderLand();
        for (int i = 0; i < 12; i++) {
            due("before it is told", x.explains(0, i), UNKNOWN);
            due("sign", x.sign(2, i, 0, 88 + i), i);
            due("how many", x.count(3), i + 1);
        }
        due("the thirteenth", x.sign(2, 0, 0, 1), FULL);
        due("there is no 12", x.explains(0, 12), UNKNOWN);
        due("there is no 12", x.forget(12), UNKNOWN);
        for (int i = 11; i >= 0; i--) {
            due("its worth", x.forget(i), 88 + i);
        }
        int[] worths = {-1, 0, 1, 2, 98, 99, 100};
        for (int worth : worths) {
            for (int kind = 0; kind <= 5; kind++) {
                BoulderLand y = new BoulderLand();
                y.stone(0, 5, 1);
                boolean is = worth >= 1 && worth <= 99;
                due("kind " + kind + " worth " + worth, y.sign(kind, 15, 0, worth), is ? 0 : OUTSIDE);
                // an empty story explains BARE alone
                due("costs", y.costs(0), is && kind != 3 ? worth : 0);
            }
        }
        for (int kind = -1; kind <= 6; kind++) {
            BoulderLand y = new BoulderLand();
            y.stone(0, 5, 1);
            due("kind " + kind, y.sign(kind, 15, 0, 1), kind >= 0 && kind <= 5 ? 0 : OUTSIDE);
        }
        int[] most = {3, 0, 0, 0, 1, 15};
        for (int kind = 0; kind <= 5; kind++) {
            for (int extra = -1; extra <= most[kind] + 1; extra++) {
                BoulderLand y = new BoulderLand();
                y.stone(0, 5, 1);
                y.stone(0, 5, 1);
                boolean is = extra >= 0 && extra <= most[kind];
                due("kind " + kind + " extra " + extra, y.sign(kind, 15, extra, 1),
                    is ? 0 : kind == 4 ? UNKNOWN : OUTSIDE);
                due("how many", y.count(3), is ? 1 : 0);
            }
        }
    }

    /** A row of four with a wall under it, ice from its left (GO 0), ice from its right (1), a flood (2). */
    private static BoulderLand row() {
        BoulderLand x = walls(4, 2, 0, 1, 2, 3);
        due("ice from 0", x.ice(0, 3, 1, 2), 0);
        due("ice from 3", x.ice(3, 3, 1, 2), 1);
        due("flood", x.flood(1), 2);
        return x;
    }

    private static void askAll(BoulderLand x, int sign, String stories, int... due) {
        String[] rows = stories.split(" ");
        for (int i = 0; i < rows.length; i++) {
            x.clear(0);
            for (char go : rows[i].toCharArray()) {
                if (go != '-') {
                    x.then(0, go - '0');
                }
            }
            due("sign " + sign + " by story " + rows[i], x.explains(0, sign), due[i]);
        }
    }

    private static void scratch() {
        sentence = "SCRATCH: some ICE of the STORY COVERS the CELL and FLOWS from it in that DIRECTION";
        BoulderLand x = row();
        x.sign(0, 1, 0, 1);
        x.sign(0, 1, 2, 1);
        x.sign(0, 2, 0, 1);
        x.sign(0, 3, 2, 1);
        x.sign(0, 1, 1, 1);
        String stories = "- 0 1 2 01 10 02 210";
        askAll(x, 0, stories, 0, 1, 0, 0, 1, 1, 1, 1);
        // in 1 the ice from 3 ends
        askAll(x, 1, stories, 0, 0, 0, 0, 0, 0, 0, 0);
        askAll(x, 2, stories, 0, 0, 0, 0, 0, 0, 0, 0);
        askAll(x, 3, stories, 0, 0, 1, 0, 1, 1, 0, 1);
        askAll(x, 4, stories, 0, 0, 0, 0, 0, 0, 0, 0);
    }

    private static void heapSign() {
        sentence = "HEAP: some ICE has a HEAP there";
        BoulderLand x = row();
        for (int c = 0; c < 4; c++) {
            x.sign(1, c, 0, 1);
        }
        String stories = "- 0 1 2 01 20 12";
        askAll(x, 0, stories, 0, 0, 0, 0, 0, 0, 0);
        askAll(x, 1, stories, 0, 0, 1, 0, 1, 0, 1);
        askAll(x, 2, stories, 0, 1, 0, 0, 1, 1, 0);
        askAll(x, 3, stories, 0, 0, 0, 0, 0, 0, 0);
    }

    private static void shell() {
        sentence = "SHELL: some FLOOD COVERS it";
        BoulderLand x = row();
        x.sign(2, 0, 0, 1);
        x.sign(2, 4, 0, 1);
        String stories = "- 0 1 2 01 20 12";
        askAll(x, 0, stories, 0, 0, 0, 1, 0, 1, 1);
        askAll(x, 1, stories, 0, 0, 0, 0, 0, 0, 0);
        due("a gap as high as LEVEL", x.cell(0, 0, 1), 0);
        askAll(x, 0, stories, 0, 0, 0, 0, 0, 0, 0);
        due("a flood more", x.flood(2), 3);
        askAll(x, 0, "2 3 23 32 013", 0, 1, 1, 1, 1);
    }

    private static void bare() {
        sentence = "BARE: no ICE COVERS it";
        BoulderLand x = row();
        x.sign(3, 0, 0, 1);
        x.sign(3, 1, 0, 1);
        x.sign(3, 3, 0, 1);
        x.sign(3, 4, 0, 1);
        String stories = "- 0 1 2 01 20 12";
        askAll(x, 0, stories, 1, 0, 1, 1, 0, 0, 1);
        askAll(x, 1, stories, 1, 0, 0, 1, 0, 0, 0);
        askAll(x, 2, stories, 1, 1, 0, 1, 0, 1, 0);
        askAll(x, 3, stories, 1, 1, 1, 1, 1, 1, 1);
    }

    private static void stoneSign() {
        sentence = "STONE (EXTRA a STONE; the CELL does not matter): WHENCE of it is not empty";
        BoulderLand x = row();
        x.cell(0, 1, 4);
        int[] cells = {0, 1, 2, 3};
        for (int c : cells) {
            due("stone", x.stone(c, 4, 2), c);
        }
        int[] any = {-1, 8, Integer.MIN_VALUE, Integer.MAX_VALUE};
        for (int i = 0; i < 4; i++) {
            due("sign", x.sign(4, any[i], i, 1), i);
        }
        String stories = "- 0 1 2 01 20";
        askAll(x, 0, stories, 1, 0, 1, 1, 0, 0);
        askAll(x, 1, stories, 0, 1, 0, 0, 1, 1);
        askAll(x, 2, stories, 0, 0, 0, 0, 0, 0);
        askAll(x, 3, stories, 0, 0, 0, 0, 0, 0);
        due("no stone 4", x.sign(4, 0, 4, 1), UNKNOWN);
        due("stone", x.stone(2, 4, 1), 4);
        due("sign", x.sign(4, 0, 4, 1), 4);
        askAll(x, 4, stories, 0, 1, 0, 0, 0, 1);
        for (int i = 5; i < 12; i++) {
            due("stone", x.stone(0, 4, 1), i);
        }
        due("the last stone", x.sign(4, 0, 11, 1), 5);
        due("no stone 12", x.sign(4, 0, 12, 1), UNKNOWN);
    }

    private static void cross() {
        sentence = "CROSS (EXTRA 4 times a DIRECTION and another one): some ICE FLOWS from it in the first DIRECTION "
            + "behind some ICE, earlier in the STORY, that does in the other one";
        BoulderLand x = walls(4, 2, 0, 1, 2, 3);
        x.ice(0, 50, 1, 2);
        x.ice(3, 50, 1, 2);
        x.flood(1);
        x.ice(0, 40, 1, 2);
        due("0 behind 2", x.sign(5, 1, 2, 1), 0);
        due("2 behind 0", x.sign(5, 1, 8, 1), 1);
        due("0 behind 0", x.sign(5, 1, 0, 1), 2);
        due("1 behind 0", x.sign(5, 1, 4, 1), 3);
        due("3 behind 3", x.sign(5, 1, 15, 1), 4);
        due("0 behind 2 where one ends", x.sign(5, 0, 2, 1), 5);
        String stories = "- 0 1 01 10 021 120 03 30 013 130 2";
        askAll(x, 0, stories, 0, 0, 0, 0, 1, 0, 1, 0, 0, 1, 1, 0);
        askAll(x, 1, stories, 0, 0, 0, 1, 0, 1, 0, 0, 0, 1, 0, 0);
        askAll(x, 2, stories, 0, 0, 0, 0, 0, 0, 0, 1, 1, 1, 1, 0);
        for (int sign = 3; sign <= 5; sign++) {
            askAll(x, sign, stories, 0, 0, 0, 0, 0, 0, 0, 0, 0, 0, 0, 0);
        }
    }

    private static void costs() {
        sentence = "It COSTS the WORTH of all SIGNS that it does not EXPLAIN; it FITS, if it costs 0";
        BoulderLand x = new BoulderLand();
        due("flood", x.flood(1), 0);
        story(x, 1, 0);
        due("no signs", x.costs(0), 0);
        for (int i = 0; i < 12; i++) {
            due("both rows or one", x.fits(), i == 0 ? 2 : 1);
            due("sign", x.sign(2, 0, 0, 99), i);
            due("all", x.costs(0), 99 * (i + 1));
            due("none", x.costs(1), 0);
        }
        due("the flood", x.fits(), 1);
        due("one less", x.forget(11), 99);
        due("a heap that no one leaves", x.sign(1, 0, 0, 1), 11);
        due("1 is not 0", x.fits(), 0);
        due("costs", x.costs(1), 1);
        due("all", x.costs(0), 99 * 11 + 1);
        due("best", x.best(), 1);
    }

    // ---- the best story

    private static void bestTerms() {
        threeAtMost();
        shortest();
        firstByNumbers();
    }

    /** Six ice that each leave a heap in a CELL of their own, and a sign for some of them. */
    private static BoulderLand heaps(int... signed) {
        BoulderLand x = new BoulderLand();
        x.land(6, 2);
        for (int i = 0; i < 6; i++) {
            due("ice", x.ice(i, 1, 20, 0), i);
        }
        for (int i = 0; i < signed.length; i++) {
            due("sign", x.sign(1, signed[i], 0, 10), i);
        }
        return x;
    }

    private static void dueBest(BoulderLand x, int cost, int fits, int... goes) {
        due("best", x.best(), cost);
        due("fits", x.fits(), fits);
        for (int i = 0; i < 4; i++) {
            due("best go " + i, x.bestGo(i), i < goes.length ? goes[i] : NONE);
        }
        due("take", x.take(2), goes.length);
        due("costs as much", x.costs(2), cost);
    }

    private static void threeAtMost() {
        sentence = "THE BEST STORY: of all rows of three GOES at most that which costs least";
        dueBest(heaps(5), 0, 1 + 10 + 60, 5);
        dueBest(heaps(5, 4), 0, 2 + 24, 4, 5);
        dueBest(heaps(5, 3, 4), 0, 6, 3, 4, 5);
        dueBest(heaps(5, 2, 3, 4), 10, 0, 2, 3, 4);
        // a story told of four goes costs less, and is not among them
        BoulderLand x = heaps(5, 2, 3, 4);
        story(x, 0, 2, 3, 4, 5);
        due("costs", x.costs(0), 0);
        due("best", x.best(), 10);
        due("fits", x.fits(), 0);
        // by worth, not by how many
        BoulderLand y = heaps(0, 1, 2, 3);
        due("sign", y.sign(1, 0, 0, 99), 4);
        due("sign", y.sign(3, 5, 0, 1), 5);
        dueBest(y, 10, 0, 0, 1, 2);
        due("sign", y.sign(1, 3, 0, 1), 6);
        dueBest(y, 10, 0, 0, 1, 3);
    }

    private static void shortest() {
        sentence = "of like ones the shortest";
        dueBest(heaps(), 0, 157);
        BoulderLand x = heaps(4);
        due("sign", x.sign(3, 4, 0, 10), 1);
        dueBest(x, 10, 0);
        due("sign", x.sign(1, 4, 0, 1), 2);
        dueBest(x, 10, 0, 4);
        BoulderLand none = new BoulderLand();
        due("sign", none.sign(1, 0, 0, 7), 0);
        dueBest(none, 7, 0);
    }

    private static void firstByNumbers() {
        sentence = "of like ones the first by numbers";
        BoulderLand x = new BoulderLand();
        x.land(6, 2);
        for (int i = 0; i < 6; i++) {
            due("ice", x.ice(i % 3 + 3, 1, 20, 0), i);
        }
        due("sign", x.sign(1, 5, 0, 1), 0);
        // all rows but those of the four GOES 0, 1, 3, 4
        dueBest(x, 0, 157 - 1 - 4 - 12 - 24, 2);
        due("sign", x.sign(1, 3, 0, 1), 1);
        due("first", x.bestGo(0), 0);
        due("second", x.bestGo(1), 2);
        due("sign", x.sign(1, 4, 0, 1), 2);
        due("first", x.bestGo(0), 0);
        due("second", x.bestGo(1), 1);
        due("third", x.bestGo(2), 2);
    }

    // ---- unlike

    private static void unlikeTerms() {
        sentence = "UNLIKE at a CELL in a THING (0 to 3 SCRATCH in that DIRECTION, 4 HEAP, 5 SHELL, 6 BARE)";
        int[] to = {8, 12, 6, 2};
        for (int direction = 0; direction < 4; direction++) {
            BoulderLand x = walls(5, 3, 7, to[direction]);
            due("ice", x.ice(7, 50, 1, 1), 0);
            story(x, 1, 0);
            int[] places = {70 + direction, 76, 10 * to[direction] + 4, 10 * to[direction] + 6};
            java.util.Arrays.sort(places);
            dueLook(x, 0, 1, places);
        }
        BoulderLand x = walls(2, 2, 3);
        due("flood", x.flood(1), 0);
        story(x, 0, 0);
        dueLook(x, 0, 1, 35);
        due("another flood, alike", x.flood(2), 1);
        story(x, 1, 1);
        dueLook(x, 0, 1);
        due("in the order of goes too", x.then(1, 0), 2);
        dueLook(x, 0, 1);
        // one EXPLAINS by another GO what the other one does: not unlike
        due("ice", x.ice(3, 1, 1, 1), 2);
        due("ice", x.ice(3, 9, 20, 1), 3);
        story(x, 0, 2);
        story(x, 1, 3);
        story(x, 2, 3, 2);
        dueLook(x, 0, 1);
        dueLook(x, 1, 2);
    }

    private static void dueLook(BoulderLand x, int a, int b, int... places) {
        due("unlike", x.unlike(a, b), places.length);
        due("unlike, turned about", x.unlike(b, a), places.length);
        for (int i = 0; i < places.length; i++) {
            due("look " + i, x.look(a, b, i), places[i]);
            due("look, turned about " + i, x.look(b, a, i), places[i]);
        }
        due("just beyond", x.look(a, b, places.length), NONE);
        due("just before", x.look(a, b, -1), NONE);
    }

    // ---- lakes

    private static void lakeTerms() {
        levels();
        closedIn();
        byCellsNotCovered();
        deep();
    }

    private static void levels() {
        sentence = "LEVEL is the least that is, on some way to beyond EDGE, the greatest HEIGHT on it (its own too)";
        BoulderLand x = heights(4,
            9, 9, 9, 9,
            9, 0, 3, 9,
            9, 9, 9, 9);
        due("ice that covers nothing", x.ice(0, 1, 1, 0), 0);
        due("over the rim", x.level(0, 5), 9);
        due("over the rim", x.level(0, 6), 9);
        due("the rim", x.level(0, 7), 9);
        x.cell(1, 0, 8);
        due("by 1", x.level(0, 5), 8);
        due("by 5 and 1", x.level(0, 6), 8);
        x.cell(1, 0, 2);
        due("by 1", x.level(0, 5), 2);
        due("its own", x.level(0, 6), 3);
        x.cell(1, 0, 0);
        due("not higher than its own", x.level(0, 5), 0);
        due("the two ways", x.level(0, 6), 3);
        // a corner lets nothing out
        BoulderLand y = heights(3,
            0, 99, 0,
            99, 0, 99,
            0, 99, 0);
        due("ice that covers nothing", y.ice(1, 1, 1, 0), 0);
        due("the highest", y.level(0, 4), 99);
        due("a corner", y.level(0, 0), 0);
        due("at EDGE its own, though lower ones lie beside", y.level(0, 1), 99);
    }

    private static void closedIn() {
        sentence = "CLOSED in, if there is no way";
        // a peak in the middle; ice from 0 comes to 8 with DIST 4
        BoulderLand x = heights(3,
            0, 0, 0,
            0, 90, 0,
            0, 0, 0);
        due("ice to all of EDGE", x.ice(0, 5, 1, 0), 0);
        due("closed", x.level(0, 4), NONE);
        due("no water", x.lake(0), 0);
        due("ice to all but 8", x.ice(0, 4, 1, 0), 1);
        due("8 is out, but 4 does not touch it", x.level(1, 4), NONE);
        due("8 is out", x.level(1, 8), 0);
        due("ice to all but 5, 7, 8", x.ice(0, 3, 1, 0), 2);
        due("by 5 or 7", x.level(2, 4), 90);
        due("all is covered", x.ice(4, 100, 1, 0), 3);
        due("no lake", x.lake(3), 0);
    }

    private static void byCellsNotCovered() {
        sentence = "on some way by CELLS that it does not COVER";
        // pits 7 and 8 behind a rim with gaps in 5 (1 high) and 14 (6 high)
        BoulderLand x = heights(5,
            9, 9, 9, 9, 9,
            1, 9, 0, 0, 9,
            9, 9, 2, 9, 6,
            9, 9, 4, 9, 9);
        due("ice that covers nothing", x.ice(0, 1, 1, 0), 0);
        due("out by 12 and 17", x.level(0, 7), 4);
        due("ice in 17", x.ice(17, 5, 5, 0), 1);
        due("covered", x.level(1, 17), STATE);
        due("over a rim", x.level(1, 7), 9);
        due("12 too", x.level(1, 12), 9);
        due("ice as high as 17", x.ice(17, 4, 1, 0), 2);
        due("does not cover it", x.level(2, 17), 4);
        due("out by it", x.level(2, 7), 4);
    }

    private static void deep() {
        sentence = "Water is DEEP there: LEVEL less HEIGHT";
        int[] heights = new int[36];
        for (int c = 0; c < 36; c++) {
            boolean inside = c % 6 > 0 && c % 6 < 5 && c / 6 > 0 && c / 6 < 5;
            heights[c] = inside ? 0 : 99;
        }
        BoulderLand x = heights(6, heights);
        due("ice that covers nothing", x.ice(0, 1, 1, 0), 0);
        due("16 of 99", x.lake(0), 16 * 99);
        due("one is 98 high", x.cell(7, 0, 98), 0);
        due("there 1", x.lake(0), 15 * 99 + 1);
        due("a gap", x.cell(3, 0, 10), 99);
        due("ten each", x.lake(0), 15 * 10);
        due("ice in the pit takes its water", x.ice(14, 9, 20, 0), 1);
        due("14 of ten", x.lake(1), 14 * 10);
        due("a gap to the ground", x.cell(3, 0, 0), 10);
        due("none", x.lake(0), 0);
    }

    // ---- land that sank

    private static void sunkTerms() {
        sentence = "behind each GO what it was before is halved, cut; then, if ICE COVERS it, THICK by 4, cut, more";
        for (int top = 1; top <= 9; top++) {
            BoulderLand x = new BoulderLand();
            due("ice", x.ice(0, top, 20, 0), 0);
            due("flood", x.flood(99), 1);
            due("ice elsewhere", x.ice(15, 1, 20, 0), 2);
            story(x, 0, 0, 1, 2);
            due("thick " + top, x.sunk(0, 0, 1), top / 4);
            due("a flood halves", x.sunk(0, 0, 2), top / 4 / 2);
            due("and ice elsewhere", x.sunk(0, 0, 3), top / 4 / 2 / 2);
        }
        BoulderLand x = new BoulderLand();
        for (int i = 0; i < 6; i++) {
            due("ice", x.ice(0, 199, 20, 0), i);
            due("then", x.then(0, i), i + 1);
        }
        int[] due = {0, 49, 73, 85, 91, 94, 96};
        for (int n = 0; n <= 6; n++) {
            due("behind " + n, x.sunk(0, 0, n), due[n]);
        }
        due("behind 7", x.sunk(0, 0, 7), OUTSIDE);
        due("behind -1", x.sunk(0, 0, -1), OUTSIDE);
        // halved before, not behind: 1 and 1 are 1
        BoulderLand y = new BoulderLand();
        for (int i = 0; i < 2; i++) {
            y.ice(0, 4, 20, 0);
            y.then(0, i);
        }
        due("0 and 1", y.sunk(0, 0, 2), 1);
        due("the land as it is now", y.cell(0, 0, 1), 0);
        due("3 by 4", y.sunk(0, 0, 2), 0);
    }

    // ---- layers

    private static void layerTerms() {
        layers();
        rings();
        toDrop();
    }

    private static void layers() {
        sentence = "LAYERS 0 to 9: one lies OVER another one, told by pairs";
        for (int a = -1; a <= 10; a++) {
            for (int b = -1; b <= 10; b++) {
                boolean are = a >= 0 && a <= 9 && b >= 0 && b <= 9;
                BoulderLand x = new BoulderLand();
                due("over " + a + " " + b, x.over(a, b, true), !are ? UNKNOWN : a == b ? STATE : 0);
                due("pairs", x.count(4), are && a != b ? 1 : 0);
                due("above", x.above(a, b), !are ? UNKNOWN : a == b ? 0 : 1);
                due("not turned about", x.above(b, a), are ? 0 : UNKNOWN);
                due("over once more", x.over(a, b, false), !are ? UNKNOWN : a == b ? STATE : 1);
                due("no pairs", x.count(4), 0);
            }
        }
    }

    private static void rings() {
        sentence = "A RING: a LAYER that is OVER itself, round about";
        for (int length = 2; length <= 10; length++) {
            BoulderLand x = new BoulderLand();
            for (int i = 0; i + 1 < length; i++) {
                x.over(i, i + 1, true);
                due("not yet", x.ring(), 0);
            }
            x.over(length - 1, 0, true);
            due("ring of " + length, x.ring(), length);
            for (int layer = 0; layer < 10; layer++) {
                due("over itself", x.above(layer, layer), layer < length ? 1 : 0);
            }
            due("one to drop", x.drops(), 1);
            due("the first", x.drop(0), 0);
            x.over(length - 1, 0, false);
            due("no more", x.ring(), 0);
            due("none to drop", x.drops(), 0);
        }
        // two pairs on a LAYER that make no ring
        BoulderLand x = new BoulderLand();
        x.over(0, 1, true);
        x.over(0, 2, true);
        x.over(1, 3, true);
        x.over(2, 3, true);
        due("no ring", x.ring(), 0);
        due("none to drop", x.drops(), 0);
    }

    private static void pairs(BoulderLand x, int... rings) {
        for (int ring : rings) {
            x.over(ring / 10, ring % 10, true);
            x.over(ring % 10, ring / 10, true);
        }
    }

    private static void dueDrops(BoulderLand x, int... layers) {
        due("drops", x.drops(), layers.length);
        for (int i = 0; i < layers.length; i++) {
            due("drop " + i, x.drop(i), layers[i]);
        }
        due("just beyond", x.drop(layers.length), NONE);
        due("just before", x.drop(-1), NONE);
    }

    private static void toDrop() {
        sentence = "TO DROP: the fewest LAYERS without which there is no RING; of as many the first by numbers";
        BoulderLand x = new BoulderLand();
        dueDrops(x);
        pairs(x, 89);
        dueDrops(x, 8);
        pairs(x, 79);
        dueDrops(x, 9);
        pairs(x, 78);
        dueDrops(x, 7, 8);
        pairs(x, 1, 2, 3, 4);
        dueDrops(x, 0, 7, 8);
        // 0 with 5, or 1 with 2: two of each, 0 first
        BoulderLand y = new BoulderLand();
        pairs(y, 1, 2, 15, 25);
        dueDrops(y, 0, 5);
        // of a ring of three one only, and the one that two rings share
        BoulderLand z = new BoulderLand();
        int[] ways = {1, 12, 20, 34, 42, 23};
        for (int way : ways) {
            z.over(way / 10, way % 10, true);
        }
        due("both rings", z.ring(), 5);
        dueDrops(z, 2);
        BoulderLand all = new BoulderLand();
        for (int a = 0; a < 10; a++) {
            for (int b = 0; b < a; b++) {
                pairs(all, 10 * a + b);
            }
        }
        due("all pairs", all.count(4), 90);
        due("all", all.ring(), 10);
        dueDrops(all, 0, 1, 2, 3, 4, 5, 6, 7, 8);
    }

    // ---- how long an object answers

    private static void manyCalls() {
        sentence = "An object is used for at most 512 calls";
        BoulderLand x = new BoulderLand();
        int asked = 0;
        while (asked < 506) {
            due("refused", x.land(1, 1), OUTSIDE);
            due("told", x.over(asked % 9, 9, true), asked < 18 ? 0 : 1);
            asked += 2;
        }
        due("507: land", x.land(2, 2), 4);
        due("508: ice", x.ice(3, 9, 1, 9), 0);
        due("509: then", x.then(0, 0), 1);
        due("510: ends", x.ends(0, 3, 9), 1);
        due("511: pairs", x.count(4), 9);
        due("512: best", x.best(), 0);
    }
}
