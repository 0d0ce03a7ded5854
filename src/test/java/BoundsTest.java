/**
 * Promises 1 to 35: what is asked at the bound and just within it, of nothing and of as much as there can be.
 * What lies beyond is in RefusedTest, the bounds that 'Terms' tells are in TermsTest.
 */
final class BoundsTest {
    private static final int UNKNOWN = BoulderLand.UNKNOWN, OUTSIDE = BoulderLand.OUTSIDE, STATE = BoulderLand.STATE,
        FULL = BoulderLand.FULL, NONE = BoulderLand.NONE;
    private static final int MIN = Integer.MIN_VALUE, MAX = Integer.MAX_VALUE;

    private static String promise;

    public static void main(String[] args) {
        newObject();
        landEmpties();
        landChangesGoes();
        landLeavesLayers();
        changesAreSeen();
        cell();
        stone();
        dug();
        ice();
        flood();
        covers();
        by();
        brings();
        then();
        clear();
        told();
        ends();
        whence();
        from();
        sign();
        forget();
        forgetMovesAll();
        explains();
        costs();
        fits();
        best();
        take();
        unlike();
        level();
        lake();
        sunk();
        over();
        above();
        ring();
        drops();
        count();
        Check.end();
    }

    private static void due(String call, int got, int want) {
        Check.due(promise + ": " + call, got, want);
    }

    private static void story(BoulderLand x, int slot, int... goes) {
        x.clear(slot);
        for (int i = 0; i < goes.length; i++) {
            due("then", x.then(slot, goes[i]), i + 1);
        }
    }

    /** W by H CELLS, flat, with all six GOES: ice from the first CELL over all, and a flood at last. */
    private static BoulderLand sixGoes(int w, int h) {
        BoulderLand x = new BoulderLand();
        due("land", x.land(w, h), w * h);
        for (int i = 0; i < 5; i++) {
            due("ice", x.ice(0, 199 - i, 1, 20), i);
        }
        due("flood", x.flood(99), 5);
        return x;
    }

    private static void newObject() {
        promise = "1 new object";
        BoulderLand x = new BoulderLand();
        int[] counts = {16, 0, 0, 0, 0};
        for (int what = 0; what <= 4; what++) {
            due("count " + what, x.count(what), counts[what]);
        }
        due("no stone", x.dug(0, 0), UNKNOWN);
        due("no go", x.covers(0), UNKNOWN);
        due("no sign", x.forget(0), UNKNOWN);
        for (int slot = 0; slot <= 2; slot++) {
            due("empty", x.told(slot, 0), NONE);
            due("costs nothing", x.costs(slot), 0);
            due("a stone stays", x.ends(slot, 15, 9), 15);
            due("nothing sunk", x.sunk(slot, 15, 0), 0);
            due("not one go", x.sunk(slot, 15, 1), OUTSIDE);
            due("alike", x.unlike(slot, (slot + 1) % 3), 0);
            due("alike", x.look(slot, (slot + 1) % 3, 0), NONE);
            due("the best is empty", x.take(slot), 0);
        }
        due("the empty row", x.fits(), 1);
        due("costs nothing", x.best(), 0);
        due("no go", x.bestGo(0), NONE);
        due("no ring", x.ring(), 0);
        due("none to drop", x.drops(), 0);
        due("none to drop", x.drop(0), NONE);
        for (int a = 0; a <= 9; a++) {
            due("not above", x.above(a, 9 - a), 0);
        }
        for (int c = 0; c <= 15; c++) {
            due("flat", x.cell(c, 0, 0), 0);
            due("rock 0", x.cell(c, 1, 0), 0);
        }
    }

    // from each state a new land is as that of a new object
    private static void landEmpties() {
        promise = "2 land: flat, of ROCK 0; no STONES, GOES, SIGNS, STORIES";
        int[] sides = {2, 3, 6};
        for (int side : sides) {
            for (Twins twins : States.all()) {
                twins.alike("land " + side, x -> x.land(side, side), side * side);
            }
        }
    }

    // each number of a GO is taken by a flood where there was ice, and by ice where there was a flood
    private static void landChangesGoes() {
        promise = "2 land: no GOES";
        BoulderLand x = sixGoes(5, 5);
        due("land", x.land(5, 5), 25);
        for (int go = 0; go < 6; go++) {
            due("no go", x.covers(go), UNKNOWN);
            due("flood", x.flood(1), go);
            due("to the middle", x.covers(go), 25);
            due("no dist", x.by(go, 12, 1), NONE);
        }
        due("land", x.land(5, 5), 25);
        for (int go = 0; go < 6; go++) {
            due("ice", x.ice(12, 2, 1, 4), go);
            due("from the middle", x.covers(go), 5);
            due("its steps", x.brings(go, 12, 4), 7);
            due("its steps", x.brings(go, 12, 5), 12);
        }
        due("land", x.land(2, 2), 4);
        due("flood", x.flood(1), 0);
        due("shifts no heavy stone", x.brings(0, 0, 4), 0);
    }

    // the best story is reckoned before and behind each change
    private static void changesAreSeen() {
        promise = "22 best: of what is told now";
        BoulderLand x = new BoulderLand();
        x.cell(0, 1, 5);
        due("stone", x.stone(1, 5, 1), 0);
        due("sign", x.sign(4, 0, 0, 9), 0);
        due("nothing carries", x.best(), 9);
        due("ice", x.ice(0, 9, 1, 1), 0);
        due("it carries", x.best(), 0);
        due("another rock", x.cell(0, 1, 4), 5);
        due("from nowhere", x.best(), 9);
        due("its rock", x.cell(0, 1, 5), 4);
        due("it carries", x.best(), 0);
        due("dug", x.dug(0, 2), 1);
        due("too far", x.best(), 9);
        due("dug", x.dug(0, 1), 2);
        due("it carries", x.best(), 0);
        due("higher than ice", x.cell(0, 0, 9), 0);
        due("no ice", x.best(), 9);
        due("a flood", x.flood(10), 1);
        due("shifts it", x.best(), 0);
        due("which", x.bestGo(0), 1);
        due("a sign more", x.sign(1, 0, 0, 4), 1);
        due("its worth", x.best(), 4);
        due("forget", x.forget(1), 4);
        due("no more", x.best(), 0);
        due("land", x.land(2, 2), 4);
        due("nothing is told", x.best(), 0);
        due("no row but the empty one", x.fits(), 1);
    }

    private static void landLeavesLayers() {
        promise = "2 land: (LAYERS stay)";
        BoulderLand x = new BoulderLand();
        x.over(9, 0, true);
        x.over(0, 9, true);
        x.over(4, 5, true);
        due("kept", x.drop(0), 0);
        due("least", x.land(2, 2), 4);
        due("pairs", x.count(4), 3);
        due("ring", x.ring(), 2);
        due("drop", x.drop(0), 0);
        due("most", x.land(6, 6), 36);
        due("was", x.over(4, 5, true), 1);
        due("was", x.over(5, 4, true), 0);
        due("drops", x.drops(), 2);
    }

    private static void cell() {
        promise = "3 cell: what it was";
        for (int side = 2; side <= 6; side++) {
            BoulderLand x = new BoulderLand();
            x.land(side, side);
            int cells = side * side;
            for (int c = 0; c < cells; c++) {
                due("height", x.cell(c, 0, 99 - c), 0);
                due("rock", x.cell(c, 1, c % 6), 0);
            }
            for (int c = 0; c < cells; c++) {
                due("height was", x.cell(c, 0, 0), 99 - c);
                due("rock was", x.cell(c, 1, 5), c % 6);
            }
            due("no cell", x.cell(cells, 0, 1), UNKNOWN);
            due("no cell", x.cell(-1, 0, 1), UNKNOWN);
        }
        BoulderLand x = new BoulderLand();
        due("height", x.cell(15, 0, 99), 0);
        due("refused", x.cell(15, 0, 100), OUTSIDE);
        due("as before", x.cell(15, 0, 99), 99);
        due("the same once more", x.cell(15, 0, 99), 99);
        due("rock", x.cell(15, 1, 5), 0);
        due("refused", x.cell(15, 1, 6), OUTSIDE);
        due("as before", x.cell(15, 1, 5), 5);
    }

    private static void stone() {
        promise = "4 stone: its number";
        int[][] good = {{0, 0, 1}, {15, 5, 9}, {0, 5, 1}, {15, 0, 9}, {1, 1, 2}, {14, 4, 8}};
        BoulderLand x = new BoulderLand();
        for (int i = 0; i < 12; i++) {
            int[] g = good[i % 6];
            due("refused between", x.stone(16, 0, 1), UNKNOWN);
            due("refused between", x.stone(0, 6, 1), OUTSIDE);
            due("refused between", x.stone(0, 0, 10), OUTSIDE);
            due("stone", x.stone(g[0], g[1], g[2]), i);
        }
        for (int[] g : good) {
            due("full", x.stone(g[0], g[1], g[2]), FULL);
        }
        due("no cell before full", x.stone(16, 0, 1), UNKNOWN);
        due("rock before full", x.stone(0, 6, 1), OUTSIDE);
        due("weight before full", x.stone(0, 0, 0), OUTSIDE);
        due("a new land has room", x.land(2, 2), 4);
        due("the first again", x.stone(3, 5, 9), 0);
    }

    private static void dug() {
        promise = "5 dug: in which it lay as told";
        BoulderLand x = new BoulderLand();
        for (int i = 0; i < 12; i++) {
            x.stone(i, 0, 1);
        }
        int[] stones = {0, 11};
        for (int stone : stones) {
            due("to the last", x.dug(stone, 15), stone);
            due("to the first", x.dug(stone, 0), 15);
            due("to the same", x.dug(stone, 0), 0);
            due("beyond", x.dug(stone, 16), UNKNOWN);
            due("beyond", x.dug(stone, -1), UNKNOWN);
            due("still there", x.dug(stone, 3), 0);
            due("it lies there now", x.from(0, stone, 0), 3);
        }
        due("no stone", x.dug(12, 0), UNKNOWN);
        due("the others lie as told", x.dug(10, 0), 10);
    }

    private static void ice() {
        promise = "6 ice: the number of the GO";
        int[][] good = {{0, 1, 1, 0}, {15, 199, 20, 20}, {0, 199, 1, 20}, {15, 1, 20, 0}, {1, 2, 2, 1},
            {14, 198, 19, 19}};
        BoulderLand x = new BoulderLand();
        for (int i = 0; i < 6; i++) {
            int[] g = good[i];
            due("refused between", x.ice(16, 9, 9, 9), UNKNOWN);
            due("refused between", x.ice(0, 200, 9, 9), OUTSIDE);
            due("refused between", x.ice(0, 9, 21, 9), OUTSIDE);
            due("refused between", x.ice(0, 9, 9, 21), OUTSIDE);
            due("ice", x.ice(g[0], g[1], g[2], g[3]), i);
            due("thick at its source", x.by(i, g[0], 2), g[1]);
        }
        for (int[] g : good) {
            due("full", x.ice(g[0], g[1], g[2], g[3]), FULL);
        }
        due("no cell before full", x.ice(16, 9, 9, 9), UNKNOWN);
        due("top before full", x.ice(0, 0, 9, 9), OUTSIDE);
        due("fall before full", x.ice(0, 9, 0, 9), OUTSIDE);
        due("steps before full", x.ice(0, 9, 9, -1), OUTSIDE);
        due("a new land has room", x.land(2, 2), 4);
        due("the first again", x.ice(3, 199, 20, 20), 0);
    }

    private static void flood() {
        promise = "7 flood: the number of the GO";
        int[] good = {1, 99, 2, 98, 50, 1};
        BoulderLand x = new BoulderLand();
        for (int i = 0; i < 6; i++) {
            due("refused between", x.flood(0), OUTSIDE);
            due("refused between", x.flood(100), OUTSIDE);
            due("flood", x.flood(good[i]), i);
        }
        for (int level : good) {
            due("full", x.flood(level), FULL);
        }
        due("level before full", x.flood(0), OUTSIDE);
        due("level before full", x.flood(100), OUTSIDE);
        due("a new land has room", x.land(2, 2), 4);
        due("the first again", x.flood(99), 0);
    }

    private static void covers() {
        promise = "8 covers";
        int[] sides = {2, 6};
        for (int side : sides) {
            BoulderLand x = sixGoes(side, side);
            for (int go = 0; go < 6; go++) {
                due("all", x.covers(go), side * side);
            }
            due("no go", x.covers(6), UNKNOWN);
            for (int c = 0; c < side * side; c++) {
                x.cell(c, 0, 99);
            }
            due("ice all the same", x.covers(0), side * side);
            due("no flood", x.covers(5), 0);
        }
        BoulderLand x = new BoulderLand();
        due("ice", x.ice(0, 99, 1, 1), 0);
        x.cell(0, 0, 99);
        due("none", x.covers(0), 0);
        x.cell(0, 0, 98);
        due("all but what lies deeper than it falls", x.covers(0), 16);
    }

    private static void by() {
        promise = "9 by: what 0 to 4";
        BoulderLand x = new BoulderLand();
        x.land(2, 2);
        x.cell(3, 0, 99);
        due("ice", x.ice(0, 21, 20, 0), 0);
        due("flood", x.flood(99), 1);
        int[][] ice = {{1, 0, 21, 0, 0}, {1, 1, 1, NONE, 1}, {1, 1, 1, NONE, 1}, {0, NONE, NONE, NONE, 0}};
        for (int c = 0; c < 4; c++) {
            for (int what = 0; what <= 4; what++) {
                due("ice, cell " + c + " what " + what, x.by(0, c, what), ice[c][what]);
                int[] wet = {c == 3 ? 0 : 1, NONE, NONE, NONE, 0};
                due("flood, cell " + c + " what " + what, x.by(1, c, what), wet[what]);
            }
            due("beyond", x.by(0, c, 5), OUTSIDE);
            due("beyond", x.by(0, c, -1), OUTSIDE);
            due("beyond", x.by(1, c, 5), OUTSIDE);
        }
        due("no cell", x.by(0, 4, 4), UNKNOWN);
        due("no go", x.by(2, 3, 4), UNKNOWN);
        BoulderLand y = sixGoes(6, 6);
        due("the last cell", y.by(4, 35, 1), 10);
        due("the last cell", y.by(4, 35, 2), 185);
        due("the last cell", y.by(4, 35, 4), 1);
        due("the last go", y.by(5, 35, 0), 1);
    }

    private static void brings() {
        promise = "10 brings";
        BoulderLand x = sixGoes(6, 6);
        // along the first row, then down the last column
        due("weight 1", x.brings(0, 0, 1), 35);
        due("weight 2: ten steps", x.brings(0, 0, 2), 35);
        due("weight 3: six", x.brings(0, 0, 3), 11);
        due("weight 9: two", x.brings(0, 0, 9), 2);
        due("the last cell", x.brings(4, 35, 1), 35);
        due("weight 0", x.brings(0, 0, 0), OUTSIDE);
        due("weight 10", x.brings(0, 0, 10), OUTSIDE);
        x.cell(35, 0, 98);
        x.cell(29, 0, 97);
        due("the last go", x.brings(5, 35, 1), 34);
        due("the last go", x.brings(5, 35, 2), 34);
        due("weight 3 stays", x.brings(5, 35, 3), 35);
        x.cell(35, 0, 99);
        due("as high as LEVEL", x.brings(5, 35, 1), 35);
    }

    private static void then() {
        promise = "11 then: how many it has then";
        BoulderLand x = sixGoes(2, 2);
        for (int slot = 0; slot <= 2; slot++) {
            for (int i = 0; i < 6; i++) {
                due("no go", x.then(slot, 6), UNKNOWN);
                due("no go", x.then(slot, -1), UNKNOWN);
                due("then", x.then(slot, (i + slot) % 6), i + 1);
                due("it has it", x.then(slot, (i + slot) % 6), STATE);
            }
            due("it has all", x.then(slot, 0), STATE);
            due("no go comes before it has it", x.then(slot, 6), UNKNOWN);
        }
        for (int slot = 0; slot <= 2; slot++) {
            for (int i = 0; i < 6; i++) {
                due("told", x.told(slot, i), (i + slot) % 6);
            }
        }
    }

    private static void clear() {
        promise = "12 clear: how many GOES it had";
        BoulderLand x = sixGoes(2, 2);
        story(x, 0, 0, 1, 2, 3, 4, 5);
        story(x, 2, 5);
        due("none", x.clear(1), 0);
        due("no slot", x.clear(3), UNKNOWN);
        due("no slot", x.clear(-1), UNKNOWN);
        due("six", x.clear(0), 6);
        due("none", x.clear(0), 0);
        due("nothing told", x.told(0, 0), NONE);
        due("one", x.clear(2), 1);
        for (int i = 0; i < 6; i++) {
            due("room again", x.then(0, 5 - i), i + 1);
        }
    }

    private static void told() {
        promise = "13 told: the i-th; NONE";
        BoulderLand x = sixGoes(2, 2);
        for (int many = 0; many <= 6; many++) {
            for (int i = 0; i < many; i++) {
                due("of " + many, x.told(1, i), 5 - i);
            }
            due("before the first", x.told(1, -1), NONE);
            due("behind the last", x.told(1, many), NONE);
            due("far", x.told(1, MIN), NONE);
            due("far", x.told(1, MAX), NONE);
            due("then", x.then(1, Math.max(0, 5 - many)), many < 6 ? many + 1 : STATE);
        }
    }

    private static void ends() {
        promise = "14 ends";
        BoulderLand x = new BoulderLand();
        x.land(6, 2);
        for (int c = 6; c < 12; c++) {
            x.cell(c, 0, 99);
        }
        for (int i = 0; i < 6; i++) {
            due("ice of a step", x.ice(0, 50, 1, 1), i);
        }
        for (int many = 0; many <= 6; many++) {
            due("behind " + many, x.ends(2, 0, 1), Math.min(5, many));
            due("heavy", x.ends(2, 0, 2), 0);
            due("heaviest", x.ends(2, 5, 9), 5);
            due("the last cell", x.ends(2, 11, 1), 11);
            due("weight", x.ends(2, 0, 0), OUTSIDE);
            due("weight", x.ends(2, 0, 10), OUTSIDE);
            due("no cell", x.ends(2, 12, 1), UNKNOWN);
            if (many < 6) {
                due("then", x.then(2, many), many + 1);
            }
        }
    }

    private static void whence() {
        promise = "15 whence";
        BoulderLand x = sixGoes(6, 6);
        due("stone", x.stone(35, 0, 1), 0);
        due("no story: where it lies", x.whence(0, 0), 1);
        story(x, 0, 0);
        due("all 36", x.whence(0, 0), 36);
        for (int i = 1; i < 12; i++) {
            due("stone", x.stone(0, i % 6, 9), i);
        }
        due("the last stone", x.whence(0, 11), 0);
        due("no story, another rock", x.whence(1, 11), 0);
        due("no story, its rock", x.whence(1, 6), 1);
        due("carried away from there", x.whence(0, 6), 0);
        due("no stone", x.whence(0, 12), UNKNOWN);
        due("one cell of another rock", x.cell(17, 1, 5), 0);
        due("35", x.whence(0, 0), 35);
    }

    private static void from() {
        promise = "16 from: the i-th; NONE";
        BoulderLand x = sixGoes(6, 6);
        due("stone", x.stone(35, 0, 1), 0);
        story(x, 2, 0);
        for (int i = 0; i < 36; i++) {
            due("from", x.from(2, 0, i), i);
        }
        due("behind the last", x.from(2, 0, 36), NONE);
        due("before the first", x.from(2, 0, -1), NONE);
        due("no story", x.from(0, 0, 0), 35);
        due("no story", x.from(0, 0, 1), NONE);
        due("far", x.from(2, 0, MIN), NONE);
        due("far", x.from(2, 0, MAX), NONE);
        due("stone from nowhere", x.stone(0, 5, 1), 1);
        due("none", x.from(0, 1, 0), NONE);
        due("none", x.from(2, 1, 0), NONE);
        due("one of another rock", x.cell(1, 1, 5), 0);
        due("the next moves up", x.from(2, 0, 1), 2);
        due("behind the last", x.from(2, 0, 35), NONE);
    }

    private static void sign() {
        promise = "17 sign: its number";
        BoulderLand x = new BoulderLand();
        for (int i = 0; i < 12; i++) {
            x.stone(0, 0, 1);
        }
        int[][] good = {{0, 0, 0, 1}, {0, 15, 3, 99}, {1, 15, 0, 99}, {2, 15, 0, 1}, {3, 0, 0, 99}, {4, 0, 0, 1},
            {4, -1, 11, 99}, {4, 16, 11, 1}, {5, 0, 0, 1}, {5, 15, 15, 99}, {4, MIN, 5, 2}, {4, MAX, 6, 98}};
        for (int i = 0; i < 12; i++) {
            int[] g = good[i];
            due("refused between", x.sign(6, 0, 0, 1), OUTSIDE);
            due("refused between", x.sign(1, 16, 0, 1), UNKNOWN);
            due("refused between", x.sign(1, 0, 1, 1), OUTSIDE);
            due("refused between", x.sign(4, 0, 12, 1), UNKNOWN);
            due("refused between", x.sign(4, 0, 0, 100), OUTSIDE);
            due("sign", x.sign(g[0], g[1], g[2], g[3]), i);
        }
        for (int[] g : good) {
            due("full", x.sign(g[0], g[1], g[2], g[3]), FULL);
        }
        due("kind before full", x.sign(6, 0, 0, 1), OUTSIDE);
        due("no cell before full", x.sign(0, 16, 0, 1), UNKNOWN);
        due("no stone before full", x.sign(4, 0, 12, 1), UNKNOWN);
        due("extra before full", x.sign(0, 0, 4, 1), OUTSIDE);
        due("worth before full", x.sign(0, 0, 0, 0), OUTSIDE);
        for (int i = 0; i < 12; i++) {
            due("its worth", x.forget(0), good[i][3]);
        }
    }

    private static void forget() {
        promise = "18 forget: later ones move up; its WORTH";
        for (int forgotten = 0; forgotten < 12; forgotten++) {
            BoulderLand x = new BoulderLand();
            for (int i = 0; i < 12; i++) {
                // BARE, that the empty story explains, and HEAP, that it does not
                due("sign", x.sign(i % 2 == 0 ? 3 : 1, i, 0, 11 + 8 * i), i);
            }
            due("forget", x.forget(forgotten), 11 + 8 * forgotten);
            due("eleven", x.count(3), 11);
            due("no twelfth", x.forget(11), UNKNOWN);
            due("none before the first", x.forget(-1), UNKNOWN);
            for (int i = 0; i < 11; i++) {
                int was = i < forgotten ? i : i + 1;
                due("explains " + i, x.explains(0, i), was % 2 == 0 ? 1 : 0);
            }
            due("costs", x.costs(0), 6 * 51 + 8 * 6 - (forgotten % 2 == 0 ? 0 : 11 + 8 * forgotten));
            due("room for one", x.sign(1, 0, 0, 1), 11);
            due("for one only", x.sign(1, 0, 0, 1), FULL);
            for (int i = 11; i >= 0; i--) {
                int was = i < forgotten ? i : i + 1;
                due("forget " + i, x.forget(i), i == 11 ? 1 : 11 + 8 * was);
            }
            due("none left", x.forget(0), UNKNOWN);
            due("none", x.count(3), 0);
        }
    }

    private static void forgetMovesAll() {
        promise = "18 forget: (later ones move up)";
        // ice flows 0 to 1, 1 to 2, 2 to 3, 3 to 7
        int[][] signs = {{0, 3, 1, 5}, {0, 2, 0, 6}, {0, 2, 1, 7}, {1, 15, 0, 8}, {1, 14, 0, 9}, {3, 14, 0, 10}};
        int[] explained = {1, 1, 0, 1, 0, 0};
        for (int forgotten = 0; forgotten < 6; forgotten++) {
            BoulderLand x = new BoulderLand();
            due("ice", x.ice(0, 50, 1, 0), 0);
            story(x, 0, 0);
            for (int i = 0; i < 6; i++) {
                due("sign", x.sign(signs[i][0], signs[i][1], signs[i][2], signs[i][3]), i);
                due("explains", x.explains(0, i), explained[i]);
            }
            due("forget", x.forget(forgotten), signs[forgotten][3]);
            for (int i = 0; i < 5; i++) {
                due("explains", x.explains(0, i), explained[i < forgotten ? i : i + 1]);
            }
            due("explains", x.explains(0, 5), UNKNOWN);
        }
    }

    private static void explains() {
        promise = "19 explains: 1, 0";
        BoulderLand x = sixGoes(2, 2);
        for (int i = 0; i < 11; i++) {
            due("heap where there is none", x.sign(1, 0, 0, 1), i);
        }
        due("shell", x.sign(2, 3, 0, 1), 11);
        story(x, 2, 5);
        int[] shell = {0, 0, 1};
        for (int slot = 0; slot <= 2; slot++) {
            due("the first sign", x.explains(slot, 0), 0);
            due("the last sign", x.explains(slot, 11), shell[slot]);
            due("beyond", x.explains(slot, 12), UNKNOWN);
            due("beyond", x.explains(slot, -1), UNKNOWN);
        }
        due("no slot", x.explains(3, 11), UNKNOWN);
        due("no slot", x.explains(-1, 11), UNKNOWN);
    }

    private static void costs() {
        promise = "20 costs";
        BoulderLand x = sixGoes(2, 2);
        story(x, 2, 5);
        for (int i = 0; i < 12; i++) {
            int[] due = {99 * i, 99 * i, 0};
            for (int slot = 0; slot <= 2; slot++) {
                due("of " + i, x.costs(slot), due[slot]);
            }
            due("sign", x.sign(2, 3, 0, 99), i);
        }
        due("most", x.costs(0), 1188);
        due("least", x.costs(2), 0);
        due("no slot", x.costs(3), UNKNOWN);
        due("no slot", x.costs(-1), UNKNOWN);
    }

    private static void fits() {
        promise = "21 fits: (the empty one too)";
        int[] rows = {1, 2, 5, 16, 41, 86, 157};
        BoulderLand x = new BoulderLand();
        for (int goes = 0; goes <= 6; goes++) {
            due("all rows of " + goes, x.fits(), rows[goes]);
            due("one more", x.flood(9), goes < 6 ? goes : FULL);
        }
        due("bare: no ice", x.sign(3, 0, 0, 1), 0);
        due("all still", x.fits(), 157);
        due("shell", x.sign(2, 0, 0, 1), 1);
        due("all but the empty one", x.fits(), 156);
        due("heap", x.sign(1, 0, 0, 1), 2);
        due("none", x.fits(), 0);
        due("forget", x.forget(2), 1);
        due("again", x.fits(), 156);
        due("a story told does not matter", x.then(0, 0), 1);
        due("again", x.fits(), 156);
    }

    private static void best() {
        promise = "22 best, 23 bestGo: the i-th; NONE";
        BoulderLand x = new BoulderLand();
        for (int i = 0; i < 12; i++) {
            due("all of it", x.best(), 99 * i);
            due("empty", x.bestGo(0), NONE);
            due("sign", x.sign(1, i % 4, 0, 99), i);
        }
        due("most", x.best(), 1188);
        for (int go = 0; go < 6; go++) {
            due("ice", x.ice(5 - go, 1, 20, 0), go);
            int[] least = {1188, 1188, 891, 594, 297, 297};
            due("with " + (go + 1), x.best(), least[go]);
        }
        int[] goes = {2, 3, 4};
        for (int i = 0; i < 3; i++) {
            due("best go " + i, x.bestGo(i), goes[i]);
        }
        due("before the first", x.bestGo(-1), NONE);
        due("behind the last", x.bestGo(3), NONE);
        due("far", x.bestGo(MIN), NONE);
        due("far", x.bestGo(MAX), NONE);
        due("in another order 2, 3, 5 cost as much", x.bestGo(2), 4);
    }

    private static void take() {
        promise = "24 take: how many GOES";
        BoulderLand x = new BoulderLand();
        for (int go = 0; go < 6; go++) {
            due("ice", x.ice(go, 1, 20, 0), go);
        }
        for (int many = 0; many <= 4; many++) {
            int of = Math.min(3, many);
            for (int slot = 0; slot <= 2; slot++) {
                story(x, slot, 5, 4, 3, 2, 1, 0);
                due("take", x.take(slot), of);
                for (int i = 0; i <= of; i++) {
                    due("told", x.told(slot, i), i < of ? i : NONE);
                }
                due("its own", x.then(slot, 5), of + 1);
            }
            due("sign", x.sign(1, many, 0, 9), many);
        }
        due("no slot", x.take(3), UNKNOWN);
        due("no slot", x.take(-1), UNKNOWN);
    }

    private static void unlike() {
        promise = "25 unlike, 26 look: the i-th; NONE";
        BoulderLand x = sixGoes(6, 6);
        story(x, 0, 0);
        // a scratch or a heap in each CELL, and none BARE
        due("ice and nothing", x.unlike(0, 2), 72);
        story(x, 2, 5);
        due("and shells", x.unlike(0, 2), 108);
        due("the first", x.look(0, 2, 0), 0);
        due("the last but one", x.look(0, 2, 106), 355);
        due("the last", x.look(0, 2, 107), 356);
        due("behind the last", x.look(0, 2, 108), NONE);
        due("before the first", x.look(0, 2, -1), NONE);
        due("far", x.look(2, 0, MIN), NONE);
        due("far", x.look(2, 0, MAX), NONE);
        story(x, 1, 1);
        due("another ice, alike", x.unlike(0, 1), 0);
        due("alike", x.look(0, 1, 0), NONE);
        // ice alone brings such stones from 0
        due("rock", x.cell(0, 1, 5), 0);
        for (int i = 0; i < 12; i++) {
            due("stone", x.stone(35, 5, 1), i);
            due("whence", x.whence(0, i) - x.whence(2, i), 1);
        }
        due("stones are no such thing", x.unlike(0, 2), 108);
        for (int i = 1; i < 108; i++) {
            due("each behind the other", x.look(0, 2, i) > x.look(2, 0, i - 1) ? 1 : 0, 1);
        }
    }

    private static void level() {
        promise = "27 level: NONE: it is CLOSED in; STATE: the GO is a FLOOD, or COVERS it";
        BoulderLand x = new BoulderLand();
        x.land(3, 3);
        x.cell(4, 0, 99);
        for (int top = 1; top <= 5; top++) {
            due("ice", x.ice(0, top, 1, 0), top - 1);
            for (int c = 0; c < 9; c++) {
                boolean covered = c != 4 && c / 3 + c % 3 < top;
                int open = top <= 3 ? 99 : NONE;
                due("top " + top + " cell " + c, x.level(top - 1, c), covered ? STATE : c == 4 ? open : 0);
            }
            due("no cell", x.level(top - 1, 9), UNKNOWN);
        }
        due("flood", x.flood(1), 5);
        due("a flood that does not cover it", x.level(5, 4), STATE);
        due("a flood that covers it", x.level(5, 0), STATE);
        due("no cell before STATE", x.level(5, 9), UNKNOWN);
        due("no go", x.level(6, 0), UNKNOWN);
    }

    private static void lake() {
        promise = "28 lake: CLOSED ones not";
        BoulderLand x = new BoulderLand();
        x.land(3, 3);
        due("ice on all of EDGE", x.ice(0, 60, 1, 0), 0);
        due("none is left", x.lake(0), 0);
        x.cell(4, 0, 90);
        due("4 is closed in", x.level(0, 4), NONE);
        due("no water", x.lake(0), 0);
        for (int c = 0; c < 9; c++) {
            x.cell(c, 0, 99);
        }
        x.cell(4, 0, 98);
        due("no ice", x.covers(0), 0);
        due("one", x.lake(0), 1);
        x.cell(4, 0, 99);
        due("none", x.lake(0), 0);
        x.cell(4, 0, 0);
        due("most in one", x.lake(0), 99);
        due("flood", x.flood(99), 1);
        due("a flood", x.lake(1), STATE);
        due("no go", x.lake(2), UNKNOWN);
    }

    private static void sunk() {
        promise = "29 sunk: n (0 to as many as it has)";
        BoulderLand x = sixGoes(2, 2);
        for (int slot = 0; slot <= 2; slot++) {
            for (int many = 0; many <= 6; many++) {
                due("behind none", x.sunk(slot, 3, 0), 0);
                if (many > 0) {
                    due("behind all", x.sunk(slot, 3, many) >= 0 ? 1 : 0, 1);
                }
                due("behind one more", x.sunk(slot, 3, many + 1), OUTSIDE);
                due("behind one less than none", x.sunk(slot, 3, -1), OUTSIDE);
                if (many < 6) {
                    x.then(slot, many);
                }
            }
        }
        // 197 by 4; 196 by 4 and 24; 195 by 4 and 36; 194 by 4 and 42; 193 by 4 and 45; halved by the flood
        int[] due = {0, 49, 73, 84, 90, 93, 46};
        for (int n = 0; n <= 6; n++) {
            due("behind " + n, x.sunk(0, 3, n), due[n]);
        }
        due("no cell", x.sunk(0, 4, 0), UNKNOWN);
        due("no slot", x.sunk(3, 0, 0), UNKNOWN);
    }

    private static void over() {
        promise = "30 over: how it was: 1, 0";
        BoulderLand x = new BoulderLand();
        int pairs = 0;
        for (int a = 0; a <= 9; a++) {
            for (int b = 0; b <= 9; b++) {
                due("was not", x.over(a, b, false), a == b ? STATE : 0);
                due("is", x.over(a, b, true), a == b ? STATE : 0);
                due("was", x.over(a, b, true), a == b ? STATE : 1);
                pairs += a == b ? 0 : 1;
            }
            due("pairs", x.count(4), pairs);
        }
        BoulderLand y = new BoulderLand();
        due("is", y.over(0, 9, true), 0);
        due("the other way is another pair", y.over(9, 0, true), 0);
        due("no more", y.over(0, 9, false), 1);
        due("no more twice", y.over(0, 9, false), 0);
        due("the other way stays", y.over(9, 0, false), 1);
        due("none", y.count(4), 0);
    }

    private static void above() {
        promise = "31 above: round about: 1, 0";
        for (int gap = 0; gap <= 9; gap++) {
            BoulderLand x = new BoulderLand();
            for (int i = 0; i < 9; i++) {
                x.over(i, i + 1, i + 1 != gap);
            }
            for (int b = 0; b <= 9; b++) {
                due("0 above " + b + ", gap before " + gap, x.above(0, b), b > 0 && (gap == 0 || b < gap) ? 1 : 0);
                due(b + " above 9", x.above(b, 9), b < 9 && (gap == 0 || b >= gap) ? 1 : 0);
                due("not the other way", x.above(9, b), 0);
            }
        }
    }

    private static void ring() {
        promise = "32 ring";
        BoulderLand x = new BoulderLand();
        for (int pair = 0; pair < 5; pair++) {
            x.over(pair, 9 - pair, true);
            due("not yet", x.ring(), 2 * pair);
            x.over(9 - pair, pair, true);
            due("two more", x.ring(), 2 * pair + 2);
        }
        x.over(0, 9, false);
        due("two less", x.ring(), 8);
    }

    private static void drops() {
        promise = "33 drops, 34 drop: the i-th; NONE";
        for (int layers = 1; layers <= 10; layers++) {
            BoulderLand x = new BoulderLand();
            for (int a = 0; a < layers; a++) {
                for (int b = 0; b < layers; b++) {
                    x.over(a, b, true);
                }
            }
            due("all but one of " + layers, x.drops(), layers - 1);
            for (int i = 0; i < layers - 1; i++) {
                due("drop", x.drop(i), i);
            }
            due("behind the last", x.drop(layers - 1), NONE);
            due("before the first", x.drop(-1), NONE);
            due("far", x.drop(MIN), NONE);
            due("far", x.drop(MAX), NONE);
        }
    }

    private static void count() {
        promise = "35 count: 0 CELLS, 1 STONES, 2 GOES, 3 SIGNS, 4 pairs";
        BoulderLand x = sixGoes(6, 6);
        for (int i = 0; i < 12; i++) {
            x.stone(35, 5, 9);
            x.sign(3, 35, 0, 1);
        }
        for (int a = 0; a <= 9; a++) {
            for (int b = 0; b <= 9; b++) {
                x.over(a, b, true);
            }
        }
        int[] most = {36, 12, 6, 12, 90};
        int[] least = {4, 0, 0, 0, 90};
        for (int what = -1; what <= 5; what++) {
            due("most of " + what, x.count(what), what < 0 || what > 4 ? OUTSIDE : most[what]);
        }
        due("land", x.land(2, 2), 4);
        for (int what = -1; what <= 5; what++) {
            due("least of " + what, x.count(what), what < 0 || what > 4 ? OUTSIDE : least[what]);
        }
        due("far", x.count(MIN), OUTSIDE);
        due("far", x.count(MAX), OUTSIDE);
    }
}
