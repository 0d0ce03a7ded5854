/** Each promise of the document by hand: ordinary inputs, the edges that it names, wrong inputs. */
final class PromisesTest {
    private static final int UNKNOWN = BoulderLand.UNKNOWN, OUTSIDE = BoulderLand.OUTSIDE, STATE = BoulderLand.STATE,
        FULL = BoulderLand.FULL, NONE = BoulderLand.NONE;
    private static final int MIN = Integer.MIN_VALUE, MAX = Integer.MAX_VALUE;

    private static String promise;

    public static void main(String[] args) {
        newObject();
        land();
        cell();
        stone();
        dug();
        ice();
        flood();
        covers();
        by();
        brings();
        then();
        clear();
        told();
        ends();
        whence();
        from();
        sign();
        forget();
        explains();
        costs();
        fits();
        best();
        bestGo();
        take();
        unlike();
        look();
        level();
        lake();
        sunk();
        over();
        above();
        ring();
        drops();
        drop();
        count();
        Check.end();
    }

    private static void due(String call, int got, int want) {
        Check.due(promise + ": " + call, got, want);
    }

    /** A land with these heights, row by row. */
    private static BoulderLand heights(int w, int... heights) {
        BoulderLand x = new BoulderLand();
        due("land", x.land(w, heights.length / w), heights.length);
        for (int c = 0; c < heights.length; c++) {
            due("cell", x.cell(c, 0, heights[c]), 0);
        }
        return x;
    }

    private static void story(BoulderLand x, int slot, int... goes) {
        x.clear(slot);
        for (int i = 0; i < goes.length; i++) {
            due("then", x.then(slot, goes[i]), i + 1);
        }
    }

    private static void newObject() {
        promise = "1 new object";
        BoulderLand x = new BoulderLand();
        due("CELLS", x.count(0), 16);
        for (int what = 1; what <= 4; what++) {
            due("count " + what, x.count(what), 0);
        }
        for (int c = 0; c < 16; c++) {
            due("height", x.cell(c, 0, 0), 0);
            due("rock", x.cell(c, 1, 0), 0);
        }
        due("there is no cell 16", x.cell(16, 0, 0), UNKNOWN);
        due("slots are empty", x.clear(0) + x.clear(1) + x.clear(2), 0);
        // 4 wide: the cell below 1 is 5
        due("ice", x.ice(1, 50, 10, 1), 0);
        due("5 is beside 1", x.by(0, 5, 1), 1);
        BoulderLand other = new BoulderLand();
        due("objects do not share", other.count(2), 0);
    }

    private static void land() {
        promise = "2 land";
        BoulderLand x = new BoulderLand();
        for (int w = 2; w <= 6; w++) {
            for (int h = 2; h <= 6; h++) {
                due("land", x.land(w, h), w * h);
                due("count", x.count(0), w * h);
                due("last cell", x.cell(w * h - 1, 1, 1), 0);
                due("no cell", x.cell(w * h, 1, 1), UNKNOWN);
            }
        }
        x.land(3, 2);
        x.cell(5, 0, 44);
        x.cell(5, 1, 2);
        x.stone(1, 1, 1);
        x.ice(0, 50, 1, 1);
        x.flood(5);
        x.sign(2, 0, 0, 7);
        story(x, 0, 0);
        story(x, 1, 1);
        story(x, 2, 1, 0);
        x.over(3, 4, true);
        int[][] wrong = {{1, 4}, {4, 1}, {7, 4}, {4, 7}, {0, 0}, {-1, 4}, {MIN, 4}, {4, MAX}, {1, 7}};
        for (int[] wh : wrong) {
            due("wrong land", x.land(wh[0], wh[1]), OUTSIDE);
        }
        due("refused, so cells stay", x.count(0), 6);
        due("stones stay", x.count(1), 1);
        due("goes stay", x.count(2), 2);
        due("signs stay", x.count(3), 1);
        due("story stays", x.told(2, 1), 0);
        due("only the flood explains the shell", x.fits(), 3);
        due("height stays", x.cell(5, 0, 44), 44);
        due("land", x.land(3, 2), 6);
        due("no stones", x.count(1), 0);
        due("no goes", x.count(2), 0);
        due("no signs", x.count(3), 0);
        due("layers stay", x.count(4), 1);
        due("layers stay", x.above(3, 4), 1);
        due("empty 0", x.told(0, 0), NONE);
        due("empty 1", x.told(1, 0), NONE);
        due("empty 2", x.clear(2), 0);
        due("flat", x.cell(5, 0, 0), 0);
        due("rock 0", x.cell(5, 1, 0), 0);
        due("best of nothing", x.best(), 0);
        due("no row but the empty one", x.fits(), 1);
        due("numbers begin anew", x.flood(1), 0);
        due("numbers begin anew", x.stone(0, 0, 1), 0);
    }

    private static void cell() {
        promise = "3 cell";
        BoulderLand x = new BoulderLand();
        due("height", x.cell(3, 0, 99), 0);
        due("rock", x.cell(3, 1, 5), 0);
        due("height was", x.cell(3, 0, 0), 99);
        due("rock was", x.cell(3, 1, 0), 5);
        due("others stay", x.cell(2, 0, 1), 0);
        due("no cell", x.cell(-1, 0, 0), UNKNOWN);
        due("no cell", x.cell(16, 0, 0), UNKNOWN);
        due("no cell", x.cell(MAX, 0, 0), UNKNOWN);
        due("no cell comes first", x.cell(16, 9, 999), UNKNOWN);
        due("what", x.cell(0, -1, 0), OUTSIDE);
        due("what", x.cell(0, 2, 0), OUTSIDE);
        due("height", x.cell(0, 0, -1), OUTSIDE);
        due("height", x.cell(0, 0, 100), OUTSIDE);
        due("rock", x.cell(0, 1, -1), OUTSIDE);
        due("rock", x.cell(0, 1, 6), OUTSIDE);
        due("refused changes nothing", x.cell(0, 0, 0), 0);
        due("refused changes nothing", x.cell(0, 1, 0), 0);
        // goes told before follow the land as it is
        due("ice", x.ice(0, 50, 1, 9), 0);
        due("flood", x.flood(5), 1);
        due("ice covers all", x.covers(0), 16);
        due("flood too", x.covers(1), 16);
        due("a wall", x.cell(0, 0, 60), 0);
        due("ice has no source", x.covers(0), 0);
        due("flood leaves the wall", x.covers(1), 15);
    }

    private static void stone() {
        promise = "4 stone";
        BoulderLand x = new BoulderLand();
        due("no cell", x.stone(16, 0, 1), UNKNOWN);
        due("no cell", x.stone(-1, 0, 1), UNKNOWN);
        due("no cell comes first", x.stone(16, 6, 0), UNKNOWN);
        due("rock", x.stone(0, -1, 1), OUTSIDE);
        due("rock", x.stone(0, 6, 1), OUTSIDE);
        due("weight", x.stone(0, 0, 0), OUTSIDE);
        due("weight", x.stone(0, 0, 10), OUTSIDE);
        due("none told", x.count(1), 0);
        for (int i = 0; i < 12; i++) {
            due("stone", x.stone(i, i % 6, i % 9 + 1), i);
        }
        due("full", x.stone(0, 0, 1), FULL);
        due("unknown before full", x.stone(16, 0, 1), UNKNOWN);
        due("outside before full", x.stone(0, 6, 1), OUTSIDE);
        due("twelve", x.count(1), 12);
        due("where it lies", x.dug(11, 0), 11);
    }

    private static void dug() {
        promise = "5 dug";
        BoulderLand x = new BoulderLand();
        due("no stone", x.dug(0, 0), UNKNOWN);
        due("stone", x.stone(7, 0, 1), 0);
        due("no stone", x.dug(-1, 0), UNKNOWN);
        due("no stone", x.dug(1, 0), UNKNOWN);
        due("no cell", x.dug(0, 16), UNKNOWN);
        due("no cell", x.dug(0, -1), UNKNOWN);
        due("lay in 7", x.dug(0, 3), 7);
        due("lay in 3", x.dug(0, 3), 3);
        due("whence", x.from(0, 0, 0), 3);
        due("lay in 3", x.dug(0, 15), 3);
        due("whence", x.from(0, 0, 0), 15);
        due("sign", x.sign(4, 0, 0, 6), 0);
        due("best", x.best(), 0);
        due("rock", x.cell(4, 1, 1), 0);
        due("best", x.best(), 0);
        due("dug", x.dug(0, 4), 15);
        due("best follows", x.best(), 6);
    }

    private static void ice() {
        promise = "6 ice";
        BoulderLand x = new BoulderLand();
        due("no cell", x.ice(16, 1, 1, 0), UNKNOWN);
        due("no cell", x.ice(-1, 1, 1, 0), UNKNOWN);
        due("no cell comes first", x.ice(16, 0, 0, -1), UNKNOWN);
        int[][] wrong = {{0, 1, 0}, {200, 1, 0}, {1, 0, 0}, {1, 21, 0}, {1, 1, -1}, {1, 1, 21}, {MIN, 1, 0}, {1, MAX, 0}};
        for (int[] w : wrong) {
            due("wrong", x.ice(0, w[0], w[1], w[2]), OUTSIDE);
        }
        due("none told", x.count(2), 0);
        due("the empty row", x.fits(), 1);
        due("least", x.ice(0, 1, 1, 0), 0);
        due("two rows", x.fits(), 2);
        due("most", x.ice(15, 199, 20, 20), 1);
        due("five rows", x.fits(), 5);
        due("like one told", x.ice(15, 199, 20, 20), 2);
        for (int i = 3; i < 6; i++) {
            due("ice", x.ice(i, 10, 1, 1), i);
        }
        due("full", x.ice(0, 1, 1, 0), FULL);
        due("unknown before full", x.ice(16, 1, 1, 0), UNKNOWN);
        due("outside before full", x.ice(0, 0, 1, 0), OUTSIDE);
        due("six", x.count(2), 6);
    }

    private static void flood() {
        promise = "7 flood";
        BoulderLand x = new BoulderLand();
        due("level", x.flood(0), OUTSIDE);
        due("level", x.flood(100), OUTSIDE);
        due("level", x.flood(-5), OUTSIDE);
        due("none told", x.count(2), 0);
        due("ice", x.ice(0, 1, 1, 0), 0);
        due("two rows", x.fits(), 2);
        due("least", x.flood(1), 1);
        due("five rows", x.fits(), 5);
        due("most", x.flood(99), 2);
        for (int i = 3; i < 6; i++) {
            due("flood", x.flood(9), i);
        }
        due("full", x.flood(9), FULL);
        due("outside before full", x.flood(0), OUTSIDE);
    }

    private static void covers() {
        promise = "8 covers";
        // top less fall times dist must be above the height: 10, 7, 4, 1
        BoulderLand x = heights(4,
            9, 6, 3, 0,
            9, 7, 9, 9);
        due("ice", x.ice(0, 10, 3, 1), 0);
        due("the upper row: 9 and 7 below hold it off", x.covers(0), 4);
        due("ice on its own height", x.ice(0, 9, 1, 1), 1);
        due("not even its source", x.covers(1), 0);
        due("no go", x.covers(2), UNKNOWN);
        due("no go", x.covers(-1), UNKNOWN);
        // round about a wall
        BoulderLand y = heights(3,
            0, 50, 0,
            0, 50, 0,
            0, 0, 0);
        due("ice", y.ice(0, 7, 1, 1), 0);
        due("all but the wall", y.covers(0), 7);
        due("dist round about", y.by(0, 2, 1), 6);
        due("ice", y.ice(0, 6, 1, 1), 1);
        due("not to the last", y.covers(1), 6);
        // a flood comes from EDGE only and through what is below it
        BoulderLand z = heights(5,
            5, 5, 5, 5, 5,
            5, 1, 5, 1, 5,
            5, 5, 5, 2, 5,
            5, 1, 1, 5, 5,
            5, 5, 4, 5, 5);
        due("flood", z.flood(4), 0);
        due("nothing at EDGE is so low", z.covers(0), 0);
        due("flood", z.flood(5), 1);
        due("the low ones at the gap", z.covers(1), 3);
        due("2 and 1 are shut off", z.by(1, 13, 0), 0);
        due("flood", z.flood(6), 2);
        due("all", z.covers(2), 25);
    }

    private static void by() {
        promise = "9 by";
        BoulderLand x = heights(3,
            1, 2, 3,
            4, 5, 6,
            7, 90, 9);
        due("ice", x.ice(4, 40, 10, 3), 0);
        due("flood", x.flood(5), 1);
        int[] dist = {2, 1, 2, 1, 0, 1, 2, NONE, 2};
        int[] thick = {19, 28, 17, 26, 35, 24, 13, NONE, 11};
        // 4 flows to 1, the least; 1 to 0; 3 to 0; 5 to 2
        int[] flows = {NONE, 2, NONE, 3, 3, 3, NONE, NONE, NONE};
        int[] heap = {1, 0, 1, 0, 0, 0, 1, 0, 1};
        for (int c = 0; c < 9; c++) {
            due("covered " + c, x.by(0, c, 0), c == 7 ? 0 : 1);
            due("dist " + c, x.by(0, c, 1), dist[c]);
            due("thick " + c, x.by(0, c, 2), thick[c]);
            due("flows " + c, x.by(0, c, 3), flows[c]);
            due("heap " + c, x.by(0, c, 4), heap[c]);
            due("wet " + c, x.by(1, c, 0), c <= 3 ? 1 : 0);
            due("no dist of a flood", x.by(1, c, 1), NONE);
            due("no thick of a flood", x.by(1, c, 2), NONE);
            due("a flood does not flow", x.by(1, c, 3), NONE);
            due("a flood has no heap", x.by(1, c, 4), 0);
        }
        due("flows down and right", x.ice(0, 20, 4, 3), 2);
        due("x more", x.by(2, 0, 3), 0);
        due("y more", x.by(2, 2, 3), 1);
        due("no go", x.by(3, 0, 0), UNKNOWN);
        due("no go", x.by(-1, 0, 0), UNKNOWN);
        due("no cell", x.by(0, 9, 0), UNKNOWN);
        due("no cell", x.by(0, -1, 0), UNKNOWN);
        due("unknown first", x.by(0, 9, 9), UNKNOWN);
        due("what", x.by(0, 0, 5), OUTSIDE);
        due("what", x.by(0, 0, -1), OUTSIDE);
        due("source alone is a heap", x.ice(8, 10, 20, 3), 3);
        due("heap", x.by(3, 8, 4), 1);
        due("dist 0", x.by(3, 8, 1), 0);
    }

    private static void brings() {
        promise = "10 brings";
        BoulderLand x = new BoulderLand();
        x.land(6, 2);
        due("ice", x.ice(0, 50, 1, 9), 0);
        // the upper row and then down: 0 1 2 3 4 5 11
        int[] ends = {11, 4, 3, 2, 1, 1, 1, 1, 1};
        for (int weight = 1; weight <= 9; weight++) {
            due("weight " + weight, x.brings(0, 0, weight), ends[weight - 1]);
        }
        due("from within", x.brings(0, 3, 5), 4);
        due("at the heap", x.brings(0, 11, 1), 11);
        due("no steps", x.ice(0, 50, 1, 0), 1);
        due("stays", x.brings(1, 0, 1), 0);
        due("short ice", x.ice(0, 2, 1, 20), 2);
        due("to its end only", x.brings(2, 0, 1), 1);
        due("not covered", x.brings(2, 5, 1), 5);
        BoulderLand y = heights(3,
            3, 2, 9,
            1, 5, 1,
            9, 2, 5);
        due("flood", y.flood(6), 0);
        due("lowest, of like ones the least", y.brings(0, 4, 1), 3);
        due("weight 2", y.brings(0, 4, 2), 3);
        due("weight 3 stays", y.brings(0, 4, 3), 4);
        due("lowest beside is higher", y.brings(0, 3, 1), 3);
        due("once only: not on to 3", y.brings(0, 1, 1), 1);
        due("3 is lower than 1", y.brings(0, 0, 1), 3);
        due("not covered", y.brings(0, 2, 1), 2);
        due("low", y.flood(2), 1);
        due("not covered", y.brings(1, 4, 1), 4);
        BoulderLand flat = new BoulderLand();
        due("flood", flat.flood(1), 0);
        due("no lower one", flat.brings(0, 5, 1), 5);
        due("no go", y.brings(2, 0, 1), UNKNOWN);
        due("no go", y.brings(-1, 0, 1), UNKNOWN);
        due("no cell", y.brings(0, 9, 1), UNKNOWN);
        due("unknown first", y.brings(0, -1, 0), UNKNOWN);
        due("weight", y.brings(0, 0, 0), OUTSIDE);
        due("weight", y.brings(0, 0, 10), OUTSIDE);
    }

    private static void then() {
        promise = "11 then";
        BoulderLand x = new BoulderLand();
        due("no go yet", x.then(0, 0), UNKNOWN);
        for (int i = 0; i < 6; i++) {
            x.flood(i + 1);
        }
        for (int i = 0; i < 6; i++) {
            due("then", x.then(1, 5 - i), i + 1);
        }
        due("it has it", x.then(1, 5), STATE);
        due("it has it", x.then(1, 0), STATE);
        due("all stay", x.clear(1), 6);
        due("other slots are others", x.then(2, 5), 1);
        due("no slot", x.then(3, 0), UNKNOWN);
        due("no slot", x.then(-1, 0), UNKNOWN);
        due("no go", x.then(0, 6), UNKNOWN);
        due("no go", x.then(0, -1), UNKNOWN);
        due("nothing came", x.told(0, 0), NONE);
    }

    private static void clear() {
        promise = "12 clear";
        BoulderLand x = new BoulderLand();
        x.flood(1);
        x.flood(2);
        story(x, 0, 1, 0);
        story(x, 2, 0);
        due("had", x.clear(0), 2);
        due("empty", x.clear(0), 0);
        due("empty", x.told(0, 0), NONE);
        due("others stay", x.told(2, 0), 0);
        due("goes stay", x.count(2), 2);
        due("again", x.then(0, 1), 1);
        due("no slot", x.clear(3), UNKNOWN);
        due("no slot", x.clear(-1), UNKNOWN);
    }

    private static void told() {
        promise = "13 told";
        BoulderLand x = new BoulderLand();
        x.flood(1);
        x.flood(2);
        x.flood(3);
        story(x, 1, 2, 0, 1);
        due("0", x.told(1, 0), 2);
        due("1", x.told(1, 1), 0);
        due("2", x.told(1, 2), 1);
        due("3", x.told(1, 3), NONE);
        due("-1", x.told(1, -1), NONE);
        due("far", x.told(1, MAX), NONE);
        due("far", x.told(1, MIN), NONE);
        due("empty", x.told(0, 0), NONE);
        due("no slot", x.told(3, 0), UNKNOWN);
        due("no slot", x.told(-1, 9), UNKNOWN);
    }

    /** One row of ice to the right, then water down a slope: the order matters. */
    private static BoulderLand slope() {
        BoulderLand x = heights(4,
            9, 9, 9, 9,
            7, 8, 9, 9);
        due("ice along the row", x.ice(0, 30, 2, 2), 0);
        due("flood", x.flood(20), 1);
        return x;
    }

    private static void ends() {
        promise = "14 ends";
        BoulderLand x = slope();
        due("no story", x.ends(0, 5, 1), 5);
        story(x, 0, 0, 1);
        story(x, 1, 1, 0);
        // ice: 0 1 2; the flood leaves 2 where it is
        due("ice, flood", x.ends(0, 0, 1), 2);
        // flood: 0 to 4; ice from 4 (dist 1) on to 5, 6
        due("flood, ice", x.ends(1, 0, 1), 6);
        due("heavy", x.ends(1, 0, 3), 0);
        due("weight 2, one step each", x.ends(0, 0, 2), 5);
        due("no slot", x.ends(3, 0, 1), UNKNOWN);
        due("no slot", x.ends(-1, 0, 1), UNKNOWN);
        due("no cell", x.ends(0, 8, 1), UNKNOWN);
        due("unknown first", x.ends(0, -1, 0), UNKNOWN);
        due("weight", x.ends(0, 0, 0), OUTSIDE);
        due("weight", x.ends(0, 0, 10), OUTSIDE);
    }

    private static void whence() {
        promise = "15 whence";
        BoulderLand x = new BoulderLand();
        x.land(6, 2);
        due("ice", x.ice(0, 50, 1, 3), 0);
        story(x, 1, 0);
        due("stone", x.stone(11, 0, 1), 0);
        // three steps: from 3, 4, 5 and 11 itself, and 8, 9, 10 of the lower row
        due("whence", x.whence(1, 0), 7);
        due("without a story only where it lies", x.whence(0, 0), 1);
        due("another rock", x.cell(4, 1, 2), 0);
        due("one less", x.whence(1, 0), 6);
        due("stone of that rock", x.stone(11, 2, 1), 1);
        due("whence", x.whence(1, 1), 1);
        due("heavier", x.stone(11, 2, 2), 2);
        due("one step only", x.whence(1, 2), 0);
        due("rock nowhere", x.stone(11, 5, 1), 3);
        due("whence", x.whence(1, 3), 0);
        due("no slot", x.whence(3, 0), UNKNOWN);
        due("no slot", x.whence(-1, 0), UNKNOWN);
        due("no stone", x.whence(0, 4), UNKNOWN);
        due("no stone", x.whence(0, -1), UNKNOWN);
    }

    private static void from() {
        promise = "16 from";
        BoulderLand x = new BoulderLand();
        x.land(6, 2);
        due("ice", x.ice(0, 50, 1, 3), 0);
        story(x, 1, 0);
        due("stone", x.stone(11, 0, 1), 0);
        int[] cells = {3, 4, 5, 8, 9, 10, 11};
        for (int i = 0; i < cells.length; i++) {
            due("from", x.from(1, 0, i), cells[i]);
        }
        due("no more", x.from(1, 0, 7), NONE);
        due("none", x.from(1, 0, -1), NONE);
        due("none", x.from(1, 0, MAX), NONE);
        due("no slot", x.from(3, 0, 0), UNKNOWN);
        due("no slot", x.from(-1, 0, 0), UNKNOWN);
        due("no stone", x.from(0, 1, 0), UNKNOWN);
        due("no stone", x.from(0, -1, -1), UNKNOWN);
    }

    private static void sign() {
        promise = "17 sign";
        BoulderLand x = new BoulderLand();
        due("kind", x.sign(-1, 0, 0, 1), OUTSIDE);
        due("kind", x.sign(6, 0, 0, 1), OUTSIDE);
        due("kind comes first", x.sign(6, 16, 0, 1), OUTSIDE);
        for (int kind = 0; kind < 6; kind++) {
            if (kind != 4) {
                due("no cell", x.sign(kind, 16, 0, 1), UNKNOWN);
                due("no cell", x.sign(kind, -1, 0, 1), UNKNOWN);
                due("no cell, before extra and worth", x.sign(kind, 16, 99, 0), UNKNOWN);
                due("extra", x.sign(kind, 0, -1, 1), OUTSIDE);
                due("extra", x.sign(kind, 0, kind == 0 ? 4 : kind == 5 ? 16 : 1, 1), OUTSIDE);
                due("worth", x.sign(kind, 0, 0, 0), OUTSIDE);
                due("worth", x.sign(kind, 0, 0, 100), OUTSIDE);
            }
        }
        due("no stone", x.sign(4, 0, 0, 1), UNKNOWN);
        due("stone", x.stone(0, 0, 1), 0);
        due("no stone", x.sign(4, 0, 1, 1), UNKNOWN);
        due("no stone, before worth", x.sign(4, 0, -1, 0), UNKNOWN);
        due("worth", x.sign(4, 0, 0, 0), OUTSIDE);
        due("none told", x.count(3), 0);
        due("the cell does not matter", x.sign(4, 999, 0, 1), 0);
        due("the cell does not matter", x.sign(4, MIN, 0, 1), 1);
        due("explained", x.explains(0, 1), 1);
        due("last direction", x.sign(0, 15, 3, 99), 2);
        due("last cross", x.sign(5, 15, 15, 1), 3);
        for (int i = 4; i < 12; i++) {
            due("sign", x.sign(i % 3 + 1, i, 0, i), i);
        }
        due("full", x.sign(1, 0, 0, 1), FULL);
        due("refusals before full", x.sign(6, 0, 0, 1), OUTSIDE);
        due("refusals before full", x.sign(1, 16, 0, 1), UNKNOWN);
        due("refusals before full", x.sign(1, 0, 1, 1), OUTSIDE);
        due("twelve", x.count(3), 12);
    }

    private static void forget() {
        promise = "18 forget";
        BoulderLand x = new BoulderLand();
        due("no sign", x.forget(0), UNKNOWN);
        x.stone(0, 5, 1);
        x.sign(1, 0, 0, 10);
        x.sign(3, 1, 0, 20);
        x.sign(4, 0, 0, 30);
        x.sign(0, 2, 3, 40);
        due("costs", x.costs(0), 80);
        due("best", x.best(), 80);
        due("forget", x.forget(0), 10);
        due("three", x.count(3), 3);
        due("costs", x.costs(0), 70);
        due("best", x.best(), 70);
        due("bare moved up", x.explains(0, 0), 1);
        due("stone moved up", x.explains(0, 1), 0);
        due("forget", x.forget(1), 30);
        due("forget the last", x.forget(1), 40);
        due("costs", x.costs(0), 0);
        due("no sign", x.forget(1), UNKNOWN);
        due("no sign", x.forget(-1), UNKNOWN);
        due("forget", x.forget(0), 20);
        due("number anew", x.sign(3, 1, 0, 20), 0);
        // kind, cell, extra and worth move up together: ice from 0 flows 0 to 1, 1 to 2, 2 to 3, 3 to 7
        BoulderLand y = new BoulderLand();
        y.ice(0, 50, 1, 0);
        story(y, 0, 0);
        y.sign(2, 5, 0, 1);
        y.sign(0, 3, 1, 2);
        y.sign(1, 15, 0, 4);
        y.sign(0, 2, 1, 8);
        y.sign(0, 2, 0, 16);
        int[] before = {0, 1, 1, 0, 1};
        for (int i = 0; i < 5; i++) {
            due("sign " + i, y.explains(0, i), before[i]);
        }
        due("costs", y.costs(0), 9);
        due("forget", y.forget(0), 1);
        int[] after = {1, 1, 0, 1, UNKNOWN};
        for (int i = 0; i < 5; i++) {
            due("sign " + i, y.explains(0, i), after[i]);
        }
        due("costs", y.costs(0), 8);
    }

    /** A 3 by 3 land with ice from each of two corners and a flood. */
    private static BoulderLand corners() {
        BoulderLand x = new BoulderLand();
        x.land(3, 3);
        due("cell", x.cell(8, 0, 30), 0);
        due("ice from 0", x.ice(0, 20, 5, 9), 0);
        due("ice from 2", x.ice(2, 20, 5, 9), 1);
        due("flood", x.flood(10), 2);
        return x;
    }

    private static void explains() {
        promise = "19 explains";
        BoulderLand x = corners();
        // ice 0: 0 to 1, 1 to 2, 2 to 5; ice 1: 2 to 1, 1 to 0, 0 to 3, 4 to 3
        due("stone", x.stone(5, 1, 3), 0);
        due("rock", x.cell(0, 1, 1), 0);
        x.sign(0, 1, 0, 1);
        x.sign(0, 1, 2, 1);
        x.sign(1, 5, 0, 1);
        x.sign(2, 4, 0, 1);
        x.sign(3, 8, 0, 1);
        x.sign(4, 0, 0, 1);
        x.sign(5, 1, 2, 1);
        x.sign(5, 1, 8, 1);
        x.sign(3, 1, 0, 1);
        x.sign(1, 8, 0, 1);
        // slot 0 has none, slot 1 ice 0, slot 2 ice 1 and behind it ice 0 (the stone: 0 to 3, 3 to 5)
        story(x, 1, 0);
        story(x, 2, 1, 0);
        int[][] due = {
            {0, 0, 0, 0, 1, 0, 0, 0, 1, 0},
            {1, 0, 1, 0, 1, 1, 0, 0, 0, 0},
            {1, 1, 1, 0, 1, 1, 1, 0, 0, 0}};
        checkExplains(x, due);
        // slot 0 ice 0, behind it ice 1; slot 1 the flood; slot 2 the flood and ice 1
        story(x, 0, 0, 1);
        story(x, 1, 2);
        story(x, 2, 2, 1);
        int[][] more = {
            {1, 1, 1, 0, 1, 0, 0, 1, 0, 0},
            {0, 0, 0, 1, 1, 0, 0, 0, 1, 0},
            {0, 1, 0, 1, 1, 0, 0, 0, 0, 0}};
        checkExplains(x, more);
        due("no slot", x.explains(3, 0), UNKNOWN);
        due("no slot", x.explains(-1, 0), UNKNOWN);
        due("no sign", x.explains(0, 10), UNKNOWN);
        due("no sign", x.explains(0, -1), UNKNOWN);
    }

    private static void checkExplains(BoulderLand x, int[][] due) {
        for (int slot = 0; slot < 3; slot++) {
            for (int sign = 0; sign < due[slot].length; sign++) {
                due("slot " + slot + " sign " + sign, x.explains(slot, sign), due[slot][sign]);
            }
        }
    }

    private static void costs() {
        promise = "20 costs";
        BoulderLand x = corners();
        due("no signs", x.costs(0), 0);
        x.sign(0, 1, 0, 99);
        x.sign(2, 4, 0, 7);
        x.sign(3, 1, 0, 30);
        x.sign(3, 8, 0, 50);
        due("empty", x.costs(0), 106);
        story(x, 0, 0);
        due("ice", x.costs(0), 37);
        story(x, 1, 2);
        due("flood", x.costs(1), 99);
        story(x, 2, 2, 0);
        due("both", x.costs(2), 30);
        due("no slot", x.costs(3), UNKNOWN);
        due("no slot", x.costs(-1), UNKNOWN);
    }

    private static void fits() {
        promise = "21 fits";
        BoulderLand x = new BoulderLand();
        int[] rows = {1, 2, 5, 16, 41, 86, 157};
        for (int goes = 0; goes <= 6; goes++) {
            due("all rows of " + goes, x.fits(), rows[goes]);
            x.ice(0, 30, 1, 0);
        }
        BoulderLand y = corners();
        y.sign(2, 4, 0, 5);
        // 2; 02 12 20 21; all six of three
        due("with the flood", y.fits(), 11);
        y.sign(5, 1, 2, 5);
        // ice 1 before ice 0: 102 120 210
        due("crossed", y.fits(), 3);
        y.sign(3, 1, 0, 5);
        due("none", y.fits(), 0);
    }

    private static void best() {
        promise = "22 best";
        BoulderLand x = corners();
        due("no signs", x.best(), 0);
        x.sign(2, 4, 0, 5);
        due("flood", x.best(), 0);
        x.sign(3, 1, 0, 7);
        due("flood alone", x.best(), 0);
        x.sign(0, 1, 0, 20);
        due("ice is worth more", x.best(), 7);
        x.sign(5, 1, 2, 3);
        due("crossed too", x.best(), 7);
        x.cell(1, 0, 90);
        // ice 0 and 1 no more over 1
        due("the land has changed", x.best(), 23);
        x.flood(95);
        x.sign(2, 1, 0, 99);
        due("a go more", x.best(), 23);
        // four goes would be needed
        BoulderLand y = heights(2, 0, 90, 90, 0);
        y.cell(1, 0, 0);
        y.cell(2, 0, 0);
        y.ice(0, 1, 20, 1);
        y.ice(1, 1, 20, 1);
        y.ice(2, 1, 20, 1);
        y.ice(3, 1, 20, 1);
        for (int c = 0; c < 4; c++) {
            y.sign(1, c, 0, 10 + c);
        }
        due("three at most", y.best(), 10);
        due("first", y.bestGo(0), 1);
    }

    private static void bestGo() {
        promise = "23 bestGo";
        BoulderLand x = corners();
        due("empty", x.bestGo(0), NONE);
        x.sign(5, 1, 2, 5);
        due("0", x.bestGo(0), 1);
        due("1", x.bestGo(1), 0);
        due("the shortest", x.bestGo(2), NONE);
        x.sign(2, 4, 0, 5);
        // 102, 120, 210 are alike
        due("0", x.bestGo(0), 1);
        due("1", x.bestGo(1), 0);
        due("2", x.bestGo(2), 2);
        due("3", x.bestGo(3), NONE);
        due("-1", x.bestGo(-1), NONE);
        due("far", x.bestGo(MAX), NONE);
        due("another flood", x.flood(10), 3);
        due("the first by numbers", x.bestGo(2), 2);
        BoulderLand y = new BoulderLand();
        y.stone(1, 1, 1);
        y.cell(0, 1, 1);
        y.ice(0, 9, 1, 0);
        y.ice(0, 9, 1, 1);
        y.ice(0, 9, 1, 1);
        y.sign(4, 0, 0, 1);
        due("the first that carries", y.bestGo(0), 1);
        due("alone", y.bestGo(1), NONE);
    }

    private static void take() {
        promise = "24 take";
        BoulderLand x = corners();
        x.sign(5, 1, 2, 5);
        story(x, 0, 2, 1, 0);
        story(x, 1, 2);
        due("take", x.take(0), 2);
        due("0", x.told(0, 0), 1);
        due("1", x.told(0, 1), 0);
        due("2", x.told(0, 2), NONE);
        due("others stay", x.told(1, 0), 2);
        due("no slot", x.take(3), UNKNOWN);
        due("no slot", x.take(-1), UNKNOWN);
        due("it goes on", x.then(0, 2), 3);
        due("the best stays", x.bestGo(2), NONE);
        due("forget", x.forget(0), 5);
        due("take the empty one", x.take(0), 0);
        due("empty", x.told(0, 0), NONE);
        due("what was taken stays", x.take(2) + x.clear(1), 1);
    }

    private static void unlike() {
        promise = "25 unlike";
        BoulderLand x = corners();
        due("both empty", x.unlike(0, 1), 0);
        story(x, 0, 0);
        // ice 0 covers all but 8 (30): a scratch or a heap, and no BARE, in each
        due("ice and nothing", x.unlike(0, 1), 16);
        due("and the other way round", x.unlike(1, 0), 16);
        due("with itself", x.unlike(0, 0), 0);
        story(x, 1, 2);
        // and eight shells
        due("ice and flood", x.unlike(0, 1), 24);
        story(x, 1, 2, 0);
        due("shells alone", x.unlike(0, 1), 8);
        story(x, 0, 0, 2);
        due("order leaves no sign", x.unlike(0, 1), 0);
        due("no slot", x.unlike(3, 0), UNKNOWN);
        due("no slot", x.unlike(0, 3), UNKNOWN);
        due("no slot", x.unlike(-1, 0), UNKNOWN);
        due("no slot", x.unlike(0, -1), UNKNOWN);
    }

    private static void look() {
        promise = "26 look";
        BoulderLand x = corners();
        story(x, 0, 0);
        story(x, 1, 2);
        // ice 0 flows 0 to 1, 1 to 2, 2 to 5, 3 to 4, 4 to 5, 6 to 7; heaps in 5 and 7
        int[] due = {0, 5, 6, 10, 15, 16, 21, 25, 26, 30, 35, 36, 40, 45, 46, 54, 55, 56, 60, 65, 66, 74, 75, 76};
        for (int i = 0; i < due.length; i++) {
            due("look " + i, x.look(0, 1, i), due[i]);
            due("look back " + i, x.look(1, 0, i), due[i]);
        }
        due("no more", x.look(0, 1, due.length), NONE);
        due("none", x.look(0, 1, -1), NONE);
        due("none", x.look(0, 1, MAX), NONE);
        due("alike", x.look(2, 2, 0), NONE);
        due("no slot", x.look(3, 0, 0), UNKNOWN);
        due("no slot", x.look(0, 3, 0), UNKNOWN);
        due("no slot", x.look(-1, 0, 0), UNKNOWN);
        due("no slot", x.look(0, -1, -1), UNKNOWN);
    }

    /** A bowl with an outlet of 4 in its right side, and a pit in a pit. */
    private static BoulderLand bowl() {
        return heights(5,
            9, 9, 9, 9, 9,
            9, 1, 6, 2, 9,
            9, 1, 6, 2, 4,
            9, 1, 7, 2, 9,
            9, 8, 9, 9, 9);
    }

    private static void level() {
        promise = "27 level";
        BoulderLand x = bowl();
        due("ice that covers nothing", x.ice(0, 1, 1, 0), 0);
        due("over 6 and out by 4", x.level(0, 6), 6);
        due("out by 4", x.level(0, 8), 4);
        due("its own", x.level(0, 7), 6);
        due("its own", x.level(0, 17), 7);
        due("at EDGE", x.level(0, 14), 4);
        due("at EDGE", x.level(0, 0), 9);
        due("ice in the outlet", x.ice(14, 5, 4, 0), 1);
        due("out by 8", x.level(1, 8), 8);
        due("out by 8", x.level(1, 6), 8);
        due("covered", x.level(1, 14), STATE);
        due("flood", x.flood(5), 2);
        due("a flood", x.level(2, 0), STATE);
        due("no go", x.level(3, 0), UNKNOWN);
        due("no go", x.level(-1, 0), UNKNOWN);
        due("no cell", x.level(0, 25), UNKNOWN);
        due("no cell, before STATE", x.level(2, -1), UNKNOWN);
        // ice round about a peak: no way out
        BoulderLand y = heights(3,
            0, 0, 0,
            0, 50, 0,
            0, 0, 0);
        due("ice", y.ice(0, 30, 1, 0), 0);
        due("closed in", y.level(0, 4), NONE);
        due("ice", y.ice(0, 5, 2, 0), 1);
        due("out by the uncovered", y.level(1, 4), 50);
    }

    private static void lake() {
        promise = "28 lake";
        BoulderLand x = bowl();
        due("ice that covers nothing", x.ice(0, 1, 1, 0), 0);
        // three of 1 to 6, three of 2 to 4
        due("two pools", x.lake(0), 15 + 6);
        due("ice in the outlet", x.ice(14, 5, 4, 0), 1);
        // all to 8: 7 7 7, 2 2 1, 6 6 6
        due("one lake", x.lake(1), 21 + 5 + 18);
        due("flood", x.flood(5), 2);
        due("a flood", x.lake(2), STATE);
        due("no go", x.lake(3), UNKNOWN);
        due("no go", x.lake(-1), UNKNOWN);
        BoulderLand y = heights(4,
            0, 0, 0, 0,
            0, 60, 60, 0,
            0, 60, 55, 0,
            0, 0, 0, 0);
        due("ice", y.ice(0, 50, 1, 0), 0);
        due("closed ones do not count", y.lake(0), 0);
        due("closed", y.level(0, 10), NONE);
    }

    private static void sunk() {
        promise = "29 sunk";
        BoulderLand x = new BoulderLand();
        x.land(3, 2);
        due("ice", x.ice(0, 47, 1, 0), 0);
        due("ice", x.ice(0, 30, 20, 0), 1);
        due("flood", x.flood(50), 2);
        due("cell", x.cell(1, 0, 3), 0);
        story(x, 0, 0, 2, 1);
        due("nothing yet", x.sunk(0, 0, 0), 0);
        // 47 by 4 is 11; halved 5; halved 2 and 30 by 4, 7
        due("one", x.sunk(0, 0, 1), 11);
        due("two", x.sunk(0, 0, 2), 5);
        due("three", x.sunk(0, 0, 3), 9);
        // 43 by 4 is 10; 5; 2 and 7 by 4, 1
        due("thick there", x.sunk(0, 1, 3), 3);
        // 45 by 4 is 11; 5; 2: the second ice does not come so far
        due("not covered", x.sunk(0, 2, 3), 2);
        due("n", x.sunk(0, 0, 4), OUTSIDE);
        due("n", x.sunk(0, 0, -1), OUTSIDE);
        due("n of an empty one", x.sunk(1, 0, 1), OUTSIDE);
        due("0 of an empty one", x.sunk(1, 0, 0), 0);
        due("no slot", x.sunk(3, 0, 0), UNKNOWN);
        due("no slot", x.sunk(-1, 0, 9), UNKNOWN);
        due("no cell", x.sunk(0, 6, 0), UNKNOWN);
        due("no cell", x.sunk(0, -1, 9), UNKNOWN);
    }

    private static void over() {
        promise = "30 over";
        BoulderLand x = new BoulderLand();
        due("was not", x.over(0, 9, true), 0);
        due("was", x.over(0, 9, true), 1);
        due("once", x.count(4), 1);
        due("not the other way round", x.over(9, 0, false), 0);
        due("none", x.count(4), 1);
        due("was", x.over(0, 9, false), 1);
        due("was not", x.over(0, 9, false), 0);
        due("none", x.count(4), 0);
        due("was not", x.over(0, 9, true), 0);
        due("and back", x.over(9, 0, true), 0);
        due("two", x.count(4), 2);
        due("both are one", x.over(4, 4, true), STATE);
        due("both are one", x.over(4, 4, false), STATE);
        due("no layer", x.over(10, 0, true), UNKNOWN);
        due("no layer", x.over(-1, 0, true), UNKNOWN);
        due("no layer", x.over(0, 10, true), UNKNOWN);
        due("no layer", x.over(0, -1, false), UNKNOWN);
        due("no layer comes first", x.over(10, 10, true), UNKNOWN);
        due("nothing changed", x.count(4), 2);
    }

    private static void above() {
        promise = "31 above";
        BoulderLand x = new BoulderLand();
        for (int a = 9; a > 0; a--) {
            x.over(a, a - 1, true);
        }
        for (int a = 0; a < 10; a++) {
            for (int b = 0; b < 10; b++) {
                due(a + " above " + b, x.above(a, b), a > b ? 1 : 0);
            }
        }
        x.over(0, 9, true);
        due("itself, round about", x.above(5, 5), 1);
        due("round about", x.above(3, 7), 1);
        x.over(5, 4, false);
        due("no more", x.above(5, 5), 0);
        due("no more", x.above(7, 4), 0);
        due("still", x.above(4, 5), 1);
        due("no layer", x.above(10, 0), UNKNOWN);
        due("no layer", x.above(0, 10), UNKNOWN);
        due("no layer", x.above(-1, 0), UNKNOWN);
        due("no layer", x.above(0, -1), UNKNOWN);
    }

    private static void ring() {
        promise = "32 ring";
        BoulderLand x = new BoulderLand();
        due("none", x.ring(), 0);
        x.over(0, 1, true);
        x.over(1, 2, true);
        due("no ring", x.ring(), 0);
        x.over(2, 1, true);
        due("0 is over a ring, not of it", x.ring(), 2);
        x.over(2, 3, true);
        due("3 is under it", x.ring(), 2);
        x.over(3, 0, true);
        due("all four", x.ring(), 4);
        x.over(8, 9, true);
        x.over(9, 8, true);
        due("two rings", x.ring(), 6);
        x.over(1, 2, false);
        due("only the other one", x.ring(), 2);
    }

    private static void drops() {
        promise = "33 drops";
        BoulderLand x = new BoulderLand();
        due("none", x.drops(), 0);
        x.over(0, 1, true);
        due("no ring", x.drops(), 0);
        for (int pair = 0; pair < 5; pair++) {
            x.over(2 * pair, 2 * pair + 1, true);
            x.over(2 * pair + 1, 2 * pair, true);
            due("pairs", x.drops(), pair + 1);
        }
        BoulderLand y = new BoulderLand();
        for (int a = 0; a < 10; a++) {
            for (int b = 0; b < 10; b++) {
                y.over(a, b, true);
            }
        }
        due("all pairs", y.count(4), 90);
        due("all but one", y.drops(), 9);
        due("the first nine", y.drop(8), 8);
    }

    private static void drop() {
        promise = "34 drop";
        BoulderLand x = new BoulderLand();
        due("none", x.drop(0), NONE);
        // 0-9 and 1-2 rings: of {0,1} {0,2} {1,9} {2,9} the first
        x.over(0, 9, true);
        x.over(9, 0, true);
        x.over(1, 2, true);
        x.over(2, 1, true);
        due("0", x.drop(0), 0);
        due("1", x.drop(1), 1);
        due("no more", x.drop(2), NONE);
        due("none", x.drop(-1), NONE);
        due("none", x.drop(MAX), NONE);
        // rings 0-9, 1-9, 2-9 too: 9 and one of 1, 2
        x.over(1, 9, true);
        x.over(9, 1, true);
        x.over(2, 9, true);
        x.over(9, 2, true);
        due("two", x.drops(), 2);
        due("0", x.drop(0), 1);
        due("1", x.drop(1), 9);
        // first by numbers is {0, 9}, not {1, 2}, of what is left to choose
        BoulderLand y = new BoulderLand();
        int[][] rings = {{0, 1}, {0, 2}, {9, 1}, {9, 2}};
        for (int[] r : rings) {
            y.over(r[0], r[1], true);
            y.over(r[1], r[0], true);
        }
        due("two", y.drops(), 2);
        due("0", y.drop(0), 0);
        due("9", y.drop(1), 9);
        y.over(1, 9, false);
        y.over(2, 9, false);
        due("9 is no more of a ring", y.drops(), 1);
        due("0", y.drop(0), 0);
        due("no more", y.drop(1), NONE);
    }

    private static void count() {
        promise = "35 count";
        BoulderLand x = new BoulderLand();
        x.land(5, 3);
        x.stone(0, 0, 1);
        x.stone(1, 0, 1);
        x.flood(1);
        x.flood(2);
        x.flood(3);
        x.sign(2, 0, 0, 1);
        for (int b = 1; b < 6; b++) {
            x.over(0, b, true);
        }
        int[] due = {15, 2, 3, 1, 5};
        for (int what = 0; what < 5; what++) {
            due("count " + what, x.count(what), due[what]);
        }
        due("what", x.count(5), OUTSIDE);
        due("what", x.count(-1), OUTSIDE);
    }
}
