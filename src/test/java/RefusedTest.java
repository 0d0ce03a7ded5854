/**
 * The refusals of each promise, in several states: just beyond each bound and far beyond it, of several the first that
 * the call names, and that all is then as if the call had not been made.
 */
final class RefusedTest {
    private static final int UNKNOWN = BoulderLand.UNKNOWN, OUTSIDE = BoulderLand.OUTSIDE, STATE = BoulderLand.STATE,
        FULL = BoulderLand.FULL, NONE = BoulderLand.NONE;
    private static final int MIN = Integer.MIN_VALUE, MAX = Integer.MAX_VALUE;
    private static final int[] NO_SLOT = {-1, 3, MIN, MAX};
    private static final int[] NO_LAYER = {-1, 10, MIN, MAX};
    private static final int[] NO_WEIGHT = {0, 10, -1, MIN, MAX};
    private static final int[] NO_ROCK = {-1, 6, MIN, MAX};

    private final Twins twins;
    private final int[] noCell;
    private final int[] noStone;
    private final int[] noGo;
    private final int[] noSign;

    private RefusedTest(Twins twins) {
        this.twins = twins;
        noCell = new int[] {-1, twins.cells, MIN, MAX};
        noStone = new int[] {-1, twins.stones, MIN, MAX};
        noGo = new int[] {-1, twins.goes, MIN, MAX};
        noSign = new int[] {-1, twins.signs, MIN, MAX};
    }

    public static void main(String[] args) {
        for (Twins twins : States.all()) {
            RefusedTest test = new RefusedTest(twins);
            test.theLand();
            test.goes();
            test.stories();
            test.signs();
            test.rows();
            test.lakes();
            test.layers();
            test.seen();
        }
        fullRefuses();
        stateRefuses();
        Check.end();
    }

    private void refused(String what, int refusal, Twins.Call call) {
        twins.same(what, call, refusal);
    }

    private void theLand() {
        int[] noSide = {1, 7, 0, -1, -4, MIN, MAX, 65540};
        for (int side : noSide) {
            refused("2 land: w", OUTSIDE, x -> x.land(side, 4));
            refused("2 land: h", OUTSIDE, x -> x.land(4, side));
            refused("2 land: both", OUTSIDE, x -> x.land(side, side));
        }
        int last = twins.cells - 1;
        for (int c : noCell) {
            refused("3 cell: no cell", UNKNOWN, x -> x.cell(c, 0, 9));
            refused("3 cell: no cell", UNKNOWN, x -> x.cell(c, 1, 5));
            refused("3 cell: no cell before what", UNKNOWN, x -> x.cell(c, 2, 0));
            refused("3 cell: no cell before v", UNKNOWN, x -> x.cell(c, 0, 100));
            refused("4 stone: no cell", UNKNOWN, x -> x.stone(c, 0, 1));
            refused("4 stone: no cell before rock, weight", UNKNOWN, x -> x.stone(c, 6, 0));
        }
        int[] noWhat = {-1, 2, MIN, MAX};
        for (int what : noWhat) {
            refused("3 cell: what", OUTSIDE, x -> x.cell(last, what, 3));
        }
        int[] noHeight = {-1, 100, MIN, MAX};
        for (int v : noHeight) {
            refused("3 cell: height", OUTSIDE, x -> x.cell(last, 0, v));
            refused("3 cell: what and v", OUTSIDE, x -> x.cell(last, 2, v));
        }
        for (int rock : NO_ROCK) {
            refused("3 cell: rock", OUTSIDE, x -> x.cell(last, 1, rock));
            refused("4 stone: rock", OUTSIDE, x -> x.stone(last, rock, 1));
        }
        for (int weight : NO_WEIGHT) {
            refused("4 stone: weight", OUTSIDE, x -> x.stone(last, 0, weight));
        }
        for (int stone : noStone) {
            refused("5 dug: no stone", UNKNOWN, x -> x.dug(stone, last));
            refused("5 dug: neither", UNKNOWN, x -> x.dug(stone, -1));
        }
        for (int c : noCell) {
            for (int stone = 0; stone < twins.stones; stone += 11) {
                int s = stone;
                refused("5 dug: no cell", UNKNOWN, x -> x.dug(s, c));
            }
        }
    }

    private void goes() {
        int last = twins.cells - 1;
        for (int c : noCell) {
            refused("6 ice: no cell", UNKNOWN, x -> x.ice(c, 50, 1, 1));
            refused("6 ice: no cell before the others", UNKNOWN, x -> x.ice(c, 0, 0, -1));
        }
        int[] noTop = {0, 200, -1, MIN, MAX};
        for (int top : noTop) {
            refused("6 ice: top", OUTSIDE, x -> x.ice(last, top, 1, 1));
        }
        int[] noFall = {0, 21, -1, MIN, MAX};
        for (int fall : noFall) {
            refused("6 ice: fall", OUTSIDE, x -> x.ice(last, 50, fall, 1));
        }
        int[] noSteps = {-1, 21, MIN, MAX};
        for (int steps : noSteps) {
            refused("6 ice: steps", OUTSIDE, x -> x.ice(last, 50, 1, steps));
        }
        int[] noLevel = {0, 100, -1, MIN, MAX};
        for (int level : noLevel) {
            refused("7 flood: level", OUTSIDE, x -> x.flood(level));
        }
        for (int go : noGo) {
            refused("8 covers: no go", UNKNOWN, x -> x.covers(go));
            refused("9 by: no go", UNKNOWN, x -> x.by(go, last, 0));
            refused("9 by: no go before what", UNKNOWN, x -> x.by(go, last, 5));
            refused("10 brings: no go", UNKNOWN, x -> x.brings(go, last, 1));
            refused("10 brings: no go before weight", UNKNOWN, x -> x.brings(go, last, 0));
        }
        for (int go = 0; go < twins.goes; go++) {
            oneGo(go);
        }
    }

    private void oneGo(int go) {
        for (int c : noCell) {
            refused("9 by: no cell", UNKNOWN, x -> x.by(go, c, 0));
            refused("9 by: no cell before what", UNKNOWN, x -> x.by(go, c, -1));
            refused("10 brings: no cell", UNKNOWN, x -> x.brings(go, c, 1));
            refused("10 brings: no cell before weight", UNKNOWN, x -> x.brings(go, c, 10));
        }
        int[] noWhat = {-1, 5, MIN, MAX};
        for (int what : noWhat) {
            refused("9 by: what", OUTSIDE, x -> x.by(go, 0, what));
        }
        for (int weight : NO_WEIGHT) {
            refused("10 brings: weight", OUTSIDE, x -> x.brings(go, 0, weight));
        }
    }

    private void stories() {
        for (int slot : NO_SLOT) {
            refused("11 then: no slot", UNKNOWN, x -> x.then(slot, 0));
            refused("12 clear: no slot", UNKNOWN, x -> x.clear(slot));
            refused("13 told: no slot", UNKNOWN, x -> x.told(slot, 0));
            refused("13 told: no slot, no i", UNKNOWN, x -> x.told(slot, -1));
            refused("14 ends: no slot", UNKNOWN, x -> x.ends(slot, 0, 1));
            refused("14 ends: no slot before weight", UNKNOWN, x -> x.ends(slot, 0, 0));
            refused("15 whence: no slot", UNKNOWN, x -> x.whence(slot, 0));
            refused("16 from: no slot", UNKNOWN, x -> x.from(slot, 0, 0));
        }
        for (int slot = 0; slot <= 2; slot++) {
            oneSlot(slot);
        }
    }

    private void oneSlot(int slot) {
        for (int go : noGo) {
            refused("11 then: no go", UNKNOWN, x -> x.then(slot, go));
        }
        for (int c : noCell) {
            refused("14 ends: no cell", UNKNOWN, x -> x.ends(slot, c, 1));
            refused("14 ends: no cell before weight", UNKNOWN, x -> x.ends(slot, c, 0));
            refused("29 sunk: no cell", UNKNOWN, x -> x.sunk(slot, c, 0));
            refused("29 sunk: no cell before n", UNKNOWN, x -> x.sunk(slot, c, -1));
        }
        for (int weight : NO_WEIGHT) {
            refused("14 ends: weight", OUTSIDE, x -> x.ends(slot, 0, weight));
        }
        for (int stone : noStone) {
            refused("15 whence: no stone", UNKNOWN, x -> x.whence(slot, stone));
            refused("16 from: no stone", UNKNOWN, x -> x.from(slot, stone, 0));
            refused("16 from: no stone, no i", UNKNOWN, x -> x.from(slot, stone, -1));
        }
        for (int sign : noSign) {
            refused("19 explains: no sign", UNKNOWN, x -> x.explains(slot, sign));
        }
        int[] noNumber = {-1, 7, MIN, MAX};
        for (int n : noNumber) {
            refused("13 told: no i", NONE, x -> x.told(slot, n));
            refused("29 sunk: n", OUTSIDE, x -> x.sunk(slot, 0, n));
        }
    }

    private void signs() {
        int[] noKind = {-1, 6, MIN, MAX};
        for (int kind : noKind) {
            refused("17 sign: kind", OUTSIDE, x -> x.sign(kind, 0, 0, 1));
            refused("17 sign: kind before cell", OUTSIDE, x -> x.sign(kind, -1, 0, 1));
        }
        int[] most = {3, 0, 0, 0, 0, 15};
        for (int k = 0; k <= 5; k++) {
            int kind = k;
            if (kind == 4) {
                continue;
            }
            for (int c : noCell) {
                refused("17 sign: no cell", UNKNOWN, x -> x.sign(kind, c, 0, 1));
                refused("17 sign: no cell before extra, worth", UNKNOWN, x -> x.sign(kind, c, -1, 0));
            }
            int[] noExtra = {-1, most[kind] + 1, MIN, MAX};
            for (int extra : noExtra) {
                refused("17 sign: extra", OUTSIDE, x -> x.sign(kind, 0, extra, 1));
            }
        }
        for (int stone : noStone) {
            refused("17 sign: no stone", UNKNOWN, x -> x.sign(4, 0, stone, 1));
            refused("17 sign: no stone before worth", UNKNOWN, x -> x.sign(4, 0, stone, 0));
        }
        int[] noWorth = {0, 100, -1, MIN, MAX};
        for (int worth : noWorth) {
            for (int k = 0; k <= 5; k++) {
                int kind = k;
                if (kind != 4 || twins.stones > 0) {
                    refused("17 sign: worth", OUTSIDE, x -> x.sign(kind, 0, 0, worth));
                }
            }
        }
        for (int sign : noSign) {
            refused("18 forget: no sign", UNKNOWN, x -> x.forget(sign));
        }
    }

    private void rows() {
        for (int slot : NO_SLOT) {
            refused("19 explains: no slot", UNKNOWN, x -> x.explains(slot, 0));
            refused("20 costs: no slot", UNKNOWN, x -> x.costs(slot));
            refused("24 take: no slot", UNKNOWN, x -> x.take(slot));
            refused("25 unlike: no slot", UNKNOWN, x -> x.unlike(slot, 0));
            refused("25 unlike: no slot", UNKNOWN, x -> x.unlike(0, slot));
            refused("25 unlike: no slots", UNKNOWN, x -> x.unlike(slot, slot));
            refused("26 look: no slot", UNKNOWN, x -> x.look(slot, 0, 0));
            refused("26 look: no slot", UNKNOWN, x -> x.look(0, slot, 0));
            refused("26 look: no slot, no i", UNKNOWN, x -> x.look(slot, 0, -1));
        }
        int[] noNumber = {-1, 7 * 36, MIN, MAX};
        for (int i : noNumber) {
            refused("23 bestGo: no i", NONE, x -> x.bestGo(i));
            refused("26 look: no i", NONE, x -> x.look(0, 1, i));
            refused("34 drop: no i", NONE, x -> x.drop(i));
        }
        refused("23 bestGo: no fourth", NONE, x -> x.bestGo(3));
        for (int slot = 0; slot <= 2; slot++) {
            int s = slot;
            refused("25 unlike: with itself", 0, x -> x.unlike(s, s));
            refused("26 look: with itself", NONE, x -> x.look(s, s, 0));
        }
    }

    private void lakes() {
        for (int go : noGo) {
            refused("27 level: no go", UNKNOWN, x -> x.level(go, 0));
            refused("28 lake: no go", UNKNOWN, x -> x.lake(go));
        }
        for (int c : noCell) {
            for (int go = 0; go < twins.goes; go++) {
                int g = go;
                refused("27 level: no cell, before STATE", UNKNOWN, x -> x.level(g, c));
            }
        }
        for (int slot : NO_SLOT) {
            refused("29 sunk: no slot", UNKNOWN, x -> x.sunk(slot, 0, 0));
            refused("29 sunk: no slot before n", UNKNOWN, x -> x.sunk(slot, 0, -1));
        }
    }

    private void layers() {
        for (int layer : NO_LAYER) {
            refused("30 over: no layer", UNKNOWN, x -> x.over(layer, 0, true));
            refused("30 over: no layer", UNKNOWN, x -> x.over(0, layer, true));
            refused("30 over: no layer", UNKNOWN, x -> x.over(layer, 9, false));
            refused("30 over: no layer", UNKNOWN, x -> x.over(9, layer, false));
            refused("30 over: no layer before STATE", UNKNOWN, x -> x.over(layer, layer, true));
            refused("31 above: no layer", UNKNOWN, x -> x.above(layer, 0));
            refused("31 above: no layer", UNKNOWN, x -> x.above(0, layer));
            refused("31 above: no layers", UNKNOWN, x -> x.above(layer, layer));
        }
        for (int layer = 0; layer <= 9; layer++) {
            int both = layer;
            refused("30 over: both are one", STATE, x -> x.over(both, both, true));
            refused("30 over: both are one", STATE, x -> x.over(both, both, false));
        }
        int[] noWhat = {-1, 5, MIN, MAX};
        for (int what : noWhat) {
            refused("35 count: what", OUTSIDE, x -> x.count(what));
        }
    }

    // what is not refused shows: so 'changes nothing' says something
    private void seen() {
        int last = twins.cells - 1;
        twins.other("2 land", x -> x.land(5, 5), 25);
        twins.other("3 cell: height", x -> Math.min(0, x.cell(last, 0, 99)), 0);
        twins.other("3 cell: rock", x -> Math.min(0, x.cell(last, 1, 5)), 0);
        if (twins.stones < 12) {
            twins.other("4 stone", x -> x.stone(last, 5, 9), twins.stones);
        }
        for (int stone = 0; stone < twins.stones; stone++) {
            int s = stone;
            twins.other("5 dug", x -> x.dug(s, (x.dug(s, 0) + 1) % twins.cells), 0);
        }
        if (twins.goes < 6) {
            twins.other("6 ice", x -> x.ice(last, 199, 20, 20), twins.goes);
            twins.other("7 flood", x -> x.flood(99), twins.goes);
        }
        if (twins.goes > 0) {
            twins.other("11 then", x -> x.then(2, 0) > 0 ? 1 : 0, 1);
            twins.other("12 clear", x -> x.clear(0) > 0 ? 1 : 0, 1);
        }
        if (twins.signs < 12) {
            twins.other("17 sign", x -> x.sign(1, 0, 0, 99), twins.signs);
        }
        for (int sign = 0; sign < twins.signs; sign++) {
            int s = sign;
            twins.other("18 forget", x -> x.forget(s) > 0 ? 1 : 0, 1);
        }
        twins.other("30 over", x -> x.over(7, 2, true), 0);
    }

    private static Twins named(String name) {
        for (Twins twins : States.all()) {
            if (twins.name.equals(name)) {
                return twins;
            }
        }
        Check.so("there is a state " + name, false);
        return States.all().get(0);
    }

    private static void fullRefuses() {
        Twins less = named("all but one");
        less.other("4 stone: the twelfth", x -> x.stone(8, 5, 9), 11);
        less.other("6 ice: the sixth", x -> x.ice(8, 199, 20, 20), 5);
        less.other("7 flood: the sixth", x -> x.flood(99), 5);
        less.other("17 sign: the twelfth", x -> x.sign(2, 8, 0, 99), 11);
        Twins full = named("full");
        full.same("4 stone: full", x -> x.stone(8, 5, 9), FULL);
        full.same("4 stone: full", x -> x.stone(0, 0, 1), FULL);
        full.same("6 ice: full", x -> x.ice(8, 199, 20, 20), FULL);
        full.same("6 ice: full", x -> x.ice(0, 1, 1, 0), FULL);
        full.same("7 flood: full", x -> x.flood(99), FULL);
        full.same("7 flood: full", x -> x.flood(1), FULL);
        for (int k = 0; k <= 5; k++) {
            int kind = k;
            full.same("17 sign: full", x -> x.sign(kind, 8, 0, 99), FULL);
        }
        full.other("17 sign: room again", x -> x.forget(11) > 0 ? x.sign(2, 0, 0, 1) : NONE, 11);
    }

    private static void stateRefuses() {
        Twins full = named("full");
        for (int g = 0; g <= 5; g++) {
            int go = g;
            full.same("11 then: it has it", x -> x.then(0, go), STATE);
            full.same("28 lake: of a flood alone", x -> x.lake(go) == STATE ? 1 : 0, go == 2 ? 1 : 0);
            for (int c = 0; c < 9; c++) {
                int at = c;
                full.same("27 level: a flood, or covered",
                    x -> (x.level(go, at) == STATE) == (go == 2 || x.by(go, at, 0) == 1) ? 1 : 0, 1);
            }
        }
        full.other("11 then: it has it not", x -> x.then(1, 0), 3);
        full.same("11 then: it has it", x -> x.then(1, 3), STATE);
        full.same("11 then: it has it", x -> x.then(1, 1), STATE);
        full.same("29 sunk: all six", x -> x.sunk(0, 0, 6) >= 0 ? 1 : 0, 1);
        full.same("29 sunk: two", x -> x.sunk(1, 0, 2) >= 0 ? 1 : 0, 1);
        full.same("29 sunk: three of two", x -> x.sunk(1, 0, 3), OUTSIDE);
        full.same("29 sunk: one of none", x -> x.sunk(2, 0, 1), OUTSIDE);
        full.same("29 sunk: none of none", x -> x.sunk(2, 0, 0), 0);
    }
}
