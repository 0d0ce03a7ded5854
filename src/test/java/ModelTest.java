import java.util.Random;

/** Long runs of calls, made by numbers that follow from the run's own, beside the plain model. */
final class ModelTest {
    private static final int RUNS = 260;
    // an object answers 512 calls; a new land with all that lies on it takes fewer than 90
    private static final int CALLS = 512 - 90;
    private static final int[] WILD = {-1, 6, 36, 100, 200, Integer.MAX_VALUE, Integer.MIN_VALUE};

    private final Random by;
    private final BoulderLand x = new BoulderLand();
    private final Model m = new Model();
    private final int run;
    private final int relief;
    private final int wildness;
    private int cells = 16;
    private int asked;

    private ModelTest(int run) {
        this.run = run;
        by = new Random(77L * run + 5);
        int[] reliefs = {1, 3, 10, 50, 100};
        relief = reliefs[run % reliefs.length];
        wildness = run % 3 == 0 ? 20 : 200;
    }

    public static void main(String[] args) {
        for (int run = 0; run < RUNS; run++) {
            new ModelTest(run).go();
        }
        Check.end();
    }

    private void go() {
        lay();
        for (int i = 0; i < CALLS && asked < CALLS; i++) {
            int dice = by.nextInt(100);
            if (dice < 6) {
                askLand();
            } else if (dice < 20) {
                askGoes();
            } else if (dice < 45) {
                askStories();
            } else if (dice < 70) {
                askSigns();
            } else if (dice < 82) {
                askWater();
            } else {
                askLayers();
            }
        }
    }

    /** A number from least to most, now and then one that is not. */
    private int num(int least, int most) {
        if (by.nextInt(wildness) == 0) {
            return by.nextBoolean() ? WILD[by.nextInt(WILD.length)] : (by.nextBoolean() ? least - 1 : most + 1);
        }
        return most < least ? least : least + by.nextInt(most - least + 1);
    }

    private int aCell() {
        return num(0, cells - 1);
    }

    private int aGo() {
        return num(0, Math.max(0, m.count(2) - 1));
    }

    private int aStone() {
        return num(0, Math.max(0, m.count(1) - 1));
    }

    private int aSlot() {
        return num(0, 2);
    }

    private void due(String call, int got, int want, int... with) {
        asked++;
        Check.due("run " + run + ": " + call + java.util.Arrays.toString(with), got, want);
    }

    private void lay() {
        int w = num(2, 6);
        int h = num(2, 6);
        due("land", x.land(w, h), m.land(w, h), w, h);
        cells = m.count(0);
        for (int c = 0; c < cells; c++) {
            setCell(c, 0, by.nextInt(relief));
            setCell(c, 1, by.nextInt(3));
        }
        for (int i = 0; i < 4; i++) {
            tellGo();
            tellStone();
            tellSign();
        }
    }

    private void setCell(int c, int what, int v) {
        due("cell", x.cell(c, what, v), m.cell(c, what, v), c, what, v);
    }

    private void tellStone() {
        int c = aCell();
        int rock = num(0, 2);
        int weight = num(1, by.nextBoolean() ? 2 : 9);
        due("stone", x.stone(c, rock, weight), m.stone(c, rock, weight), c, rock, weight);
    }

    private void tellGo() {
        if (by.nextInt(3) == 0) {
            int level = num(1, Math.min(99, relief + 1));
            due("flood", x.flood(level), m.flood(level), level);
            return;
        }
        int c = aCell();
        int top = num(1, by.nextInt(4) == 0 ? 199 : relief + 30);
        int fall = num(1, by.nextBoolean() ? 4 : 20);
        int steps = num(0, 20);
        due("ice", x.ice(c, top, fall, steps), m.ice(c, top, fall, steps), c, top, fall, steps);
    }

    private void tellSign() {
        int kind = num(0, 5);
        int c = aCell();
        int[] most = {3, 0, 0, 0, Math.max(0, m.count(1) - 1), 15};
        int extra = num(0, kind >= 0 && kind < 6 ? most[kind] : 0);
        int worth = num(1, by.nextBoolean() ? 3 : 99);
        due("sign", x.sign(kind, c, extra, worth), m.sign(kind, c, extra, worth), kind, c, extra, worth);
    }

    private void askLand() {
        switch (by.nextInt(8)) {
            case 0:
                if (by.nextInt(6) == 0) {
                    lay();
                }
                break;
            case 1:
                tellStone();
                break;
            case 2:
            case 3:
                int stone = aStone();
                int to = aCell();
                due("dug", x.dug(stone, to), m.dug(stone, to), stone, to);
                break;
            default:
                int what = num(0, 1);
                setCell(aCell(), what, num(0, what == 0 ? Math.min(99, relief) : 5));
        }
    }

    private void askGoes() {
        int go = aGo();
        int c = aCell();
        switch (by.nextInt(8)) {
            case 0:
                tellGo();
                break;
            case 1:
                due("covers", x.covers(go), m.covers(go), go);
                break;
            case 2:
            case 3:
                int weight = num(1, 9);
                due("brings", x.brings(go, c, weight), m.brings(go, c, weight), go, c, weight);
                break;
            default:
                int what = num(0, 4);
                due("by", x.by(go, c, what), m.by(go, c, what), go, c, what);
        }
    }

    private void askStories() {
        int slot = aSlot();
        int stone = aStone();
        int i = num(0, 3);
        switch (by.nextInt(9)) {
            case 0:
                if (by.nextInt(3) == 0) {
                    due("clear", x.clear(slot), m.clear(slot), slot);
                }
                break;
            case 1:
                due("told", x.told(slot, i), m.told(slot, i), slot, i);
                break;
            case 2:
            case 3:
                int c = aCell();
                int weight = num(1, 9);
                due("ends", x.ends(slot, c, weight), m.ends(slot, c, weight), slot, c, weight);
                break;
            case 4:
                due("whence", x.whence(slot, stone), m.whence(slot, stone), slot, stone);
                break;
            case 5:
                due("from", x.from(slot, stone, i), m.from(slot, stone, i), slot, stone, i);
                break;
            default:
                int go = aGo();
                due("then", x.then(slot, go), m.then(slot, go), slot, go);
        }
    }

    private void askSigns() {
        int slot = aSlot();
        int other = aSlot();
        int sign = num(0, Math.max(0, m.count(3) - 1));
        switch (by.nextInt(12)) {
            case 0:
            case 1:
                tellSign();
                break;
            case 2:
                due("forget", x.forget(sign), m.forget(sign), sign);
                break;
            case 3:
            case 4:
                due("explains", x.explains(slot, sign), m.explains(slot, sign), slot, sign);
                break;
            case 5:
            case 6:
                due("costs", x.costs(slot), m.costs(slot), slot);
                break;
            case 7:
                askRows(slot);
                break;
            case 8:
                if (by.nextInt(4) == 0) {
                    due("unlike", x.unlike(slot, other), m.unlike(slot, other), slot, other);
                }
                break;
            default:
                if (by.nextInt(4) == 0) {
                    int i = num(0, by.nextBoolean() ? 3 : 80);
                    due("look", x.look(slot, other, i), m.look(slot, other, i), slot, other, i);
                }
        }
    }

    private void askRows(int slot) {
        int i = num(0, 2);
        switch (by.nextInt(12)) {
            case 0:
                due("fits", x.fits(), m.fits());
                break;
            case 1:
                due("best", x.best(), m.best());
                break;
            case 2:
                due("bestGo", x.bestGo(i), m.bestGo(i), i);
                break;
            case 3:
                due("take", x.take(slot), m.take(slot), slot);
                break;
            default:
        }
    }

    private void askWater() {
        int go = aGo();
        int c = aCell();
        int slot = aSlot();
        switch (by.nextInt(5)) {
            case 0:
                if (by.nextInt(4) == 0) {
                    due("lake", x.lake(go), m.lake(go), go);
                }
                break;
            case 1:
            case 2:
                due("level", x.level(go, c), m.level(go, c), go, c);
                break;
            default:
                int n = num(0, 3);
                due("sunk", x.sunk(slot, c, n), m.sunk(slot, c, n), slot, c, n);
        }
    }

    private void askLayers() {
        int a = num(0, 9);
        int b = num(0, 9);
        switch (by.nextInt(10)) {
            case 0:
                due("above", x.above(a, b), m.above(a, b), a, b);
                break;
            case 1:
                due("ring", x.ring(), m.ring());
                break;
            case 2:
                due("drops", x.drops(), m.drops());
                break;
            case 3:
                int i = num(0, 3);
                due("drop", x.drop(i), m.drop(i), i);
                break;
            case 4:
                int what = num(0, 4);
                due("count", x.count(what), m.count(what), what);
                break;
            default:
                boolean is = by.nextInt(4) != 0;
                due("over " + is + " ", x.over(a, b, is), m.over(a, b, is), a, b);
        }
    }
}
