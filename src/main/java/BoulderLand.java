import java.util.Arrays;

/**
 * A land of heights and rocks, the goes of ice and flood that shift its stones,
 * stories made of such goes, the signs they explain, and layers over layers.
 *
 * Every row is made once, in a constructor: no call makes an object.
 */
public final class BoulderLand {
    public static final int UNKNOWN = -900001, OUTSIDE = -900002, STATE = -900003, FULL = -900004, NONE = -900009;

    private static final int CELLS = 36, STONES = 12, GOES = 6, SLOTS = 3, SIGNS = 12, LAYERS = 10;
    private static final int LEAST_SIDE = 2, MOST_SIDE = 6, FIRST_SIDE = 4;
    private static final int MOST_HEIGHT = 99, MOST_ROCK = 5, MOST_WEIGHT = 9, MOST_WORTH = 99;
    private static final int MOST_TOP = 199, MOST_FALL = 20, MOST_STEPS = 20, MOST_LEVEL = 99;
    private static final int DIRECTIONS = 4, LONGEST_OF_BEST = 3, MOST_SHIFTED = 2;
    private static final int SCRATCH = 0, HEAP = 1, SHELL = 2, BARE = 3, STONE = 4, CROSS = 5, KINDS = 6;
    // the THINGS in which stories are unlike: a SCRATCH for each direction, then HEAP, SHELL, BARE
    private static final int THINGS = 7;

    private static final int[] X_STEP = {1, 0, -1, 0};
    private static final int[] Y_STEP = {0, 1, 0, -1};

    private final Ground ground;
    private final Stones stones;
    private final Goes goes;
    private final Row firstRow;
    private final Row secondRow;
    private final Row thirdRow;
    private final Signs signs;
    private final Survey survey;
    private final Water water;
    private final Layers layers;

    public BoulderLand() {
        ground = new Ground();
        stones = new Stones();
        goes = new Goes(ground);
        firstRow = new Row();
        secondRow = new Row();
        thirdRow = new Row();
        signs = new Signs(ground, stones, goes);
        survey = new Survey(goes, signs);
        water = new Water(ground, goes);
        layers = new Layers();
    }

    // ---- the land

    public int land(int w, int h) {
        if (!within(w, LEAST_SIDE, MOST_SIDE) || !within(h, LEAST_SIDE, MOST_SIDE)) {
            return OUTSIDE;
        }
        ground.lay(w, h);
        stones.size = 0;
        goes.size = 0;
        signs.size = 0;
        firstRow.size = 0;
        secondRow.size = 0;
        thirdRow.size = 0;
        survey.stale = true;
        return ground.size;
    }

    public int cell(int cell, int what, int v) {
        if (!ground.has(cell)) {
            return UNKNOWN;
        }
        if (!within(what, 0, 1) || !within(v, 0, what == 0 ? MOST_HEIGHT : MOST_ROCK)) {
            return OUTSIDE;
        }
        int[] row = what == 0 ? ground.height : ground.rock;
        int was = row[cell];
        row[cell] = v;
        if (what == 0 && was != v) {
            goes.spreadAll();
        }
        survey.stale = true;
        return was;
    }

    public int stone(int cell, int rock, int weight) {
        if (!ground.has(cell)) {
            return UNKNOWN;
        }
        if (!within(rock, 0, MOST_ROCK) || !within(weight, 1, MOST_WEIGHT)) {
            return OUTSIDE;
        }
        return stones.add(cell, rock, weight);
    }

    public int dug(int stone, int cell) {
        if (!stones.has(stone) || !ground.has(cell)) {
            return UNKNOWN;
        }
        int was = stones.cell[stone];
        stones.cell[stone] = cell;
        survey.stale = true;
        return was;
    }

    // ---- goes

    public int ice(int source, int top, int fall, int steps) {
        if (!ground.has(source)) {
            return UNKNOWN;
        }
        if (!within(top, 1, MOST_TOP) || !within(fall, 1, MOST_FALL) || !within(steps, 0, MOST_STEPS)) {
            return OUTSIDE;
        }
        survey.stale = true;
        return goes.addIce(source, top, fall, steps);
    }

    public int flood(int level) {
        if (!within(level, 1, MOST_LEVEL)) {
            return OUTSIDE;
        }
        survey.stale = true;
        return goes.addFlood(level);
    }

    public int covers(int go) {
        return goes.has(go) ? goes.countCovered(go) : UNKNOWN;
    }

    public int by(int go, int cell, int what) {
        if (!goes.has(go) || !ground.has(cell)) {
            return UNKNOWN;
        }
        switch (what) {
            case 0:
                return bit(goes.isCovered(go, cell));
            case 1:
                return goes.isIced(go, cell) ? goes.distAt(go, cell) : NONE;
            case 2:
                return goes.isIced(go, cell) ? goes.thickAt(go, cell) : NONE;
            case 3:
                return goes.isIced(go, cell) && goes.courseAt(go, cell) >= 0 ? goes.courseAt(go, cell) : NONE;
            case 4:
                return bit(goes.isHeap(go, cell));
            default:
                return OUTSIDE;
        }
    }

    public int brings(int go, int cell, int weight) {
        if (!goes.has(go) || !ground.has(cell)) {
            return UNKNOWN;
        }
        return within(weight, 1, MOST_WEIGHT) ? goes.carry(go, cell, weight) : OUTSIDE;
    }

    // ---- stories

    public int then(int slot, int go) {
        if (!isSlot(slot) || !goes.has(go)) {
            return UNKNOWN;
        }
        Row row = rowOf(slot);
        if (row.has(go)) {
            return STATE;
        }
        row.add(go);
        return row.size;
    }

    public int clear(int slot) {
        if (!isSlot(slot)) {
            return UNKNOWN;
        }
        Row row = rowOf(slot);
        int had = row.size;
        row.size = 0;
        return had;
    }

    public int told(int slot, int i) {
        return isSlot(slot) ? rowOf(slot).at(i) : UNKNOWN;
    }

    public int ends(int slot, int cell, int weight) {
        if (!isSlot(slot) || !ground.has(cell)) {
            return UNKNOWN;
        }
        return within(weight, 1, MOST_WEIGHT) ? goes.carryAlong(rowOf(slot), cell, weight) : OUTSIDE;
    }

    public int whence(int slot, int stone) {
        if (!isSlot(slot) || !stones.has(stone)) {
            return UNKNOWN;
        }
        Row row = rowOf(slot);
        int found = 0;
        for (int cell = 0; cell < ground.size; cell++) {
            found += bit(signs.canComeFrom(row, stone, cell));
        }
        return found;
    }

    public int from(int slot, int stone, int i) {
        if (!isSlot(slot) || !stones.has(stone)) {
            return UNKNOWN;
        }
        Row row = rowOf(slot);
        int found = 0;
        for (int cell = 0; cell < ground.size; cell++) {
            if (signs.canComeFrom(row, stone, cell)) {
                if (found == i) {
                    return cell;
                }
                found++;
            }
        }
        return NONE;
    }

    // ---- signs

    public int sign(int kind, int cell, int extra, int worth) {
        if (!within(kind, 0, KINDS - 1)) {
            return OUTSIDE;
        }
        if (kind == STONE ? !stones.has(extra) : !ground.has(cell)) {
            return UNKNOWN;
        }
        if (!within(extra, 0, mostExtra(kind)) || !within(worth, 1, MOST_WORTH)) {
            return OUTSIDE;
        }
        survey.stale = true;
        return signs.add(kind, cell, extra, worth);
    }

    public int forget(int sign) {
        if (!signs.has(sign)) {
            return UNKNOWN;
        }
        survey.stale = true;
        return signs.remove(sign);
    }

    public int explains(int slot, int sign) {
        if (!isSlot(slot) || !signs.has(sign)) {
            return UNKNOWN;
        }
        return bit(signs.isExplained(rowOf(slot), sign));
    }

    public int costs(int slot) {
        return isSlot(slot) ? signs.costOf(rowOf(slot)) : UNKNOWN;
    }

    public int fits() {
        survey.renew();
        return survey.fitting;
    }

    public int best() {
        survey.renew();
        return survey.leastCost;
    }

    public int bestGo(int i) {
        survey.renew();
        return survey.cheapest.at(i);
    }

    public int take(int slot) {
        if (!isSlot(slot)) {
            return UNKNOWN;
        }
        survey.renew();
        Row row = rowOf(slot);
        row.copy(survey.cheapest);
        return row.size;
    }

    public int unlike(int a, int b) {
        if (!isSlot(a) || !isSlot(b)) {
            return UNKNOWN;
        }
        Row one = rowOf(a);
        Row other = rowOf(b);
        int found = 0;
        for (int place = 0; place < ground.size * THINGS; place++) {
            found += bit(signs.tellApart(one, other, place / THINGS, place % THINGS));
        }
        return found;
    }

    public int look(int a, int b, int i) {
        if (!isSlot(a) || !isSlot(b)) {
            return UNKNOWN;
        }
        Row one = rowOf(a);
        Row other = rowOf(b);
        int found = 0;
        for (int place = 0; place < ground.size * THINGS; place++) {
            if (signs.tellApart(one, other, place / THINGS, place % THINGS)) {
                if (found == i) {
                    return 10 * (place / THINGS) + place % THINGS;
                }
                found++;
            }
        }
        return NONE;
    }

    // ---- lakes, land

    public int level(int go, int cell) {
        if (!goes.has(go) || !ground.has(cell)) {
            return UNKNOWN;
        }
        if (!goes.icy[go] || goes.isCovered(go, cell)) {
            return STATE;
        }
        water.stand(go);
        return water.isClosed(cell) ? NONE : water.surface[cell];
    }

    public int lake(int go) {
        if (!goes.has(go)) {
            return UNKNOWN;
        }
        if (!goes.icy[go]) {
            return STATE;
        }
        water.stand(go);
        return water.sumDeep();
    }

    public int sunk(int slot, int cell, int n) {
        if (!isSlot(slot) || !ground.has(cell)) {
            return UNKNOWN;
        }
        Row row = rowOf(slot);
        if (!within(n, 0, row.size)) {
            return OUTSIDE;
        }
        int depth = 0;
        for (int i = 0; i < n; i++) {
            int go = row.go[i];
            depth = depth / 2 + (goes.isIced(go, cell) ? goes.thickAt(go, cell) / 4 : 0);
        }
        return depth;
    }

    // ---- layers

    public int over(int a, int b, boolean is) {
        if (!isLayer(a) || !isLayer(b)) {
            return UNKNOWN;
        }
        if (a == b) {
            return STATE;
        }
        boolean was = layers.isToldOver(a, b);
        if (was != is) {
            layers.turn(a, b);
        }
        return bit(was);
    }

    public int above(int a, int b) {
        if (!isLayer(a) || !isLayer(b)) {
            return UNKNOWN;
        }
        return bit(layers.isRoundAbout(a, b));
    }

    public int ring() {
        int found = 0;
        for (int layer = 0; layer < LAYERS; layer++) {
            found += bit(layers.isRoundAbout(layer, layer));
        }
        return found;
    }

    public int drops() {
        return Integer.bitCount(layers.fewestDropped());
    }

    public int drop(int i) {
        int dropped = layers.fewestDropped();
        int found = 0;
        for (int layer = 0; layer < LAYERS; layer++) {
            if ((dropped & Layers.mask(layer)) != 0) {
                if (found == i) {
                    return layer;
                }
                found++;
            }
        }
        return NONE;
    }

    public int count(int what) {
        switch (what) {
            case 0:
                return ground.size;
            case 1:
                return stones.size;
            case 2:
                return goes.size;
            case 3:
                return signs.size;
            case 4:
                return layers.pairs;
            default:
                return OUTSIDE;
        }
    }

    // ---- what the calls share

    private Row rowOf(int slot) {
        if (slot == 0) {
            return firstRow;
        }
        return slot == 1 ? secondRow : thirdRow;
    }

    private static int mostExtra(int kind) {
        switch (kind) {
            case SCRATCH:
                return DIRECTIONS - 1;
            case STONE:
                return STONES - 1;
            case CROSS:
                return DIRECTIONS * DIRECTIONS - 1;
            default:
                return 0;
        }
    }

    private static boolean isSlot(int slot) {
        return within(slot, 0, SLOTS - 1);
    }

    private static boolean isLayer(int layer) {
        return within(layer, 0, LAYERS - 1);
    }

    private static boolean within(int v, int least, int most) {
        return least <= v && v <= most;
    }

    private static int bit(boolean so) {
        return so ? 1 : 0;
    }

    /** The CELLS: how high, of which ROCK, and which lie beside one another. */
    private static final class Ground {
        private final int[] height = new int[CELLS];
        private final int[] rock = new int[CELLS];
        // at DIRECTIONS * cell + direction: the CELL there, or -1
        private final int[] beside = new int[DIRECTIONS * CELLS];
        private int size;

        Ground() {
            lay(FIRST_SIDE, FIRST_SIDE);
        }

        void lay(int w, int h) {
            size = w * h;
            Arrays.fill(height, 0);
            Arrays.fill(rock, 0);
            for (int y = 0; y < h; y++) {
                for (int x = 0; x < w; x++) {
                    layBeside(x, y, w, h);
                }
            }
        }

        private void layBeside(int x, int y, int w, int h) {
            for (int direction = 0; direction < DIRECTIONS; direction++) {
                int toX = x + X_STEP[direction];
                int toY = y + Y_STEP[direction];
                boolean inside = within(toX, 0, w - 1) && within(toY, 0, h - 1);
                beside[DIRECTIONS * (y * w + x) + direction] = inside ? toY * w + toX : -1;
            }
        }

        boolean has(int cell) {
            return within(cell, 0, size - 1);
        }

        boolean isEdge(int cell) {
            for (int direction = 0; direction < DIRECTIONS; direction++) {
                if (beside[DIRECTIONS * cell + direction] < 0) {
                    return true;
                }
            }
            return false;
        }
    }

    /** The STONES, in the order in which they were told. */
    private static final class Stones {
        private final int[] cell = new int[STONES];
        private final int[] rock = new int[STONES];
        private final int[] weight = new int[STONES];
        private int size;

        boolean has(int stone) {
            return within(stone, 0, size - 1);
        }

        int add(int atCell, int ofRock, int ofWeight) {
            if (size >= STONES) {
                return FULL;
            }
            cell[size] = atCell;
            rock[size] = ofRock;
            weight[size] = ofWeight;
            return size++;
        }
    }

    /**
     * The GOES. A FLOOD is kept like ICE that does not fall and comes from all of EDGE:
     * what both COVER is then found in one way.
     */
    private static final class Goes {
        private final Ground ground;
        private final boolean[] icy = new boolean[GOES];
        private final int[] source = new int[GOES];
        private final int[] top = new int[GOES];
        private final int[] fall = new int[GOES];
        private final int[] steps = new int[GOES];
        // at CELLS * go + cell: DIST, or -1 where it is not COVERED
        private final int[] dist = new int[GOES * CELLS];
        // at CELLS * go + cell: the DIRECTION in which a stone is taken from there, or -1
        private final int[] course = new int[GOES * CELLS];
        private final int[] reached = new int[CELLS];
        private int reachedSize;
        private int size;

        Goes(Ground ground) {
            this.ground = ground;
        }

        boolean has(int go) {
            return within(go, 0, size - 1);
        }

        int addIce(int fromCell, int fromTop, int byFall, int bySteps) {
            if (size >= GOES) {
                return FULL;
            }
            icy[size] = true;
            source[size] = fromCell;
            top[size] = fromTop;
            fall[size] = byFall;
            steps[size] = bySteps;
            spread(size);
            return size++;
        }

        int addFlood(int upTo) {
            if (size >= GOES) {
                return FULL;
            }
            icy[size] = false;
            top[size] = upTo;
            fall[size] = 0;
            spread(size);
            return size++;
        }

        void spreadAll() {
            for (int go = 0; go < size; go++) {
                spread(go);
            }
        }

        private void spread(int go) {
            reachedSize = 0;
            for (int cell = 0; cell < ground.size; cell++) {
                dist[CELLS * go + cell] = -1;
            }
            for (int cell = 0; cell < ground.size; cell++) {
                if (icy[go] ? source[go] == cell : ground.isEdge(cell)) {
                    reach(go, cell, 0);
                }
            }
            for (int i = 0; i < reachedSize && i < CELLS; i++) {
                int at = reached[i];
                for (int direction = 0; direction < DIRECTIONS; direction++) {
                    reach(go, ground.beside[DIRECTIONS * at + direction], distAt(go, at) + 1);
                }
            }
            for (int cell = 0; cell < ground.size; cell++) {
                course[CELLS * go + cell] = findCourse(go, cell);
            }
        }

        private void reach(int go, int cell, int distThere) {
            if (cell < 0 || isCovered(go, cell) || reachedSize >= CELLS) {
                return;
            }
            if (top[go] - fall[go] * distThere > ground.height[cell]) {
                dist[CELLS * go + cell] = distThere;
                reached[reachedSize++] = cell;
            }
        }

        private int findCourse(int go, int cell) {
            int found = -1;
            int foundCell = -1;
            for (int direction = 0; direction < DIRECTIONS; direction++) {
                int to = ground.beside[DIRECTIONS * cell + direction];
                if (leads(go, cell, to) && (foundCell < 0 || isBefore(go, to, foundCell))) {
                    found = direction;
                    foundCell = to;
                }
            }
            return found;
        }

        private boolean leads(int go, int cell, int to) {
            if (to < 0 || !isCovered(go, cell) || !isCovered(go, to)) {
                return false;
            }
            if (icy[go]) {
                return distAt(go, to) == distAt(go, cell) + 1;
            }
            return ground.height[to] < ground.height[cell];
        }

        // ICE takes the least CELL, a FLOOD the lowest and only of like ones the least
        private boolean isBefore(int go, int cell, int other) {
            if (icy[go] || ground.height[cell] == ground.height[other]) {
                return cell < other;
            }
            return ground.height[cell] < ground.height[other];
        }

        boolean isCovered(int go, int cell) {
            return dist[CELLS * go + cell] >= 0;
        }

        boolean isIced(int go, int cell) {
            return icy[go] && isCovered(go, cell);
        }

        boolean isHeap(int go, int cell) {
            return icy[go] && isCovered(go, cell) && courseAt(go, cell) < 0;
        }

        boolean isFlowing(int go, int cell, int direction) {
            return icy[go] && courseAt(go, cell) == direction;
        }

        int distAt(int go, int cell) {
            return dist[CELLS * go + cell];
        }

        int thickAt(int go, int cell) {
            return top[go] - fall[go] * distAt(go, cell) - ground.height[cell];
        }

        int courseAt(int go, int cell) {
            return course[CELLS * go + cell];
        }

        int countCovered(int go) {
            int found = 0;
            for (int cell = 0; cell < ground.size; cell++) {
                found += bit(isCovered(go, cell));
            }
            return found;
        }

        int carry(int go, int fromCell, int weight) {
            int hops = weight <= MOST_SHIFTED ? 1 : 0;
            if (icy[go]) {
                hops = weight < 1 ? 0 : steps[go] / weight;
            }
            int cell = fromCell;
            for (int i = 0; i < hops; i++) {
                int direction = course[CELLS * go + cell];
                if (direction < 0) {
                    return cell;
                }
                cell = ground.beside[DIRECTIONS * cell + direction];
            }
            return cell;
        }

        int carryAlong(Row row, int fromCell, int weight) {
            int cell = fromCell;
            for (int i = 0; i < row.size; i++) {
                cell = carry(row.go[i], cell, weight);
            }
            return cell;
        }
    }

    /** A STORY: unlike GOES, one behind the other. */
    private static final class Row {
        private final int[] go = new int[GOES];
        private int size;

        boolean has(int wanted) {
            for (int i = 0; i < size; i++) {
                if (go[i] == wanted) {
                    return true;
                }
            }
            return false;
        }

        void add(int next) {
            if (size < GOES) {
                go[size++] = next;
            }
        }

        int at(int i) {
            return within(i, 0, size - 1) ? go[i] : NONE;
        }

        void copy(Row other) {
            size = other.size;
            System.arraycopy(other.go, 0, go, 0, GOES);
        }

        /**
         * Reads the digits of a code as GOES, so that codes in order are rows in order;
         * false if two of them are alike.
         */
        boolean spell(int code, int length, int base) {
            size = 0;
            if (length > GOES || base < 1) {
                return length == 0;
            }
            int rest = code;
            for (int i = length - 1; i >= 0; i--) {
                go[i] = rest % base;
                rest /= base;
            }
            for (int i = 0; i < length; i++) {
                if (has(go[i])) {
                    return false;
                }
                size++;
            }
            return true;
        }
    }

    /** The SIGNS, and whether a STORY EXPLAINS them. */
    private static final class Signs {
        private final Ground ground;
        private final Stones stones;
        private final Goes goes;
        private final int[] kind = new int[SIGNS];
        private final int[] cell = new int[SIGNS];
        private final int[] extra = new int[SIGNS];
        private final int[] worth = new int[SIGNS];
        private int size;

        Signs(Ground ground, Stones stones, Goes goes) {
            this.ground = ground;
            this.stones = stones;
            this.goes = goes;
        }

        boolean has(int sign) {
            return within(sign, 0, size - 1);
        }

        int add(int ofKind, int atCell, int withExtra, int ofWorth) {
            if (size >= SIGNS) {
                return FULL;
            }
            kind[size] = ofKind;
            cell[size] = atCell;
            extra[size] = withExtra;
            worth[size] = ofWorth;
            return size++;
        }

        int remove(int sign) {
            int was = worth[sign];
            size--;
            for (int i = sign; i < size; i++) {
                kind[i] = kind[i + 1];
                cell[i] = cell[i + 1];
                extra[i] = extra[i + 1];
                worth[i] = worth[i + 1];
            }
            return was;
        }

        int costOf(Row row) {
            int cost = 0;
            for (int sign = 0; sign < size; sign++) {
                cost += holds(row, kind[sign], cell[sign], extra[sign]) ? 0 : worth[sign];
            }
            return cost;
        }

        boolean isExplained(Row row, int sign) {
            return holds(row, kind[sign], cell[sign], extra[sign]);
        }

        boolean tellApart(Row one, Row other, int atCell, int thing) {
            int ofKind = thing < DIRECTIONS ? SCRATCH : thing - DIRECTIONS + HEAP;
            return holds(one, ofKind, atCell, thing) != holds(other, ofKind, atCell, thing);
        }

        boolean canComeFrom(Row row, int stone, int fromCell) {
            return ground.rock[fromCell] == stones.rock[stone]
                && goes.carryAlong(row, fromCell, stones.weight[stone]) == stones.cell[stone];
        }

        private boolean holds(Row row, int ofKind, int atCell, int with) {
            if (ofKind == STONE) {
                return comesFromSomewhere(row, with);
            }
            if (ofKind == CROSS) {
                return isCrossed(row, atCell, with / DIRECTIONS, with % DIRECTIONS);
            }
            for (int i = 0; i < row.size; i++) {
                if (isDoneBy(row.go[i], ofKind, atCell, with)) {
                    return ofKind != BARE;
                }
            }
            return ofKind == BARE;
        }

        // of BARE this tells whether the go undoes it
        private boolean isDoneBy(int go, int ofKind, int atCell, int with) {
            switch (ofKind) {
                case SCRATCH:
                    return goes.isFlowing(go, atCell, with);
                case HEAP:
                    return goes.isHeap(go, atCell);
                case SHELL:
                    return !goes.icy[go] && goes.isCovered(go, atCell);
                case BARE:
                    return goes.isIced(go, atCell);
                default:
                    return false;
            }
        }

        private boolean isCrossed(Row row, int atCell, int later, int earlier) {
            boolean earlierSeen = false;
            for (int i = 0; i < row.size; i++) {
                if (earlierSeen && goes.isFlowing(row.go[i], atCell, later)) {
                    return true;
                }
                earlierSeen = earlierSeen || goes.isFlowing(row.go[i], atCell, earlier);
            }
            return false;
        }

        private boolean comesFromSomewhere(Row row, int stone) {
            for (int fromCell = 0; fromCell < ground.size; fromCell++) {
                if (canComeFrom(row, stone, fromCell)) {
                    return true;
                }
            }
            return false;
        }
    }

    /** All rows of three GOES at most, weighed anew only where something has changed. */
    private static final class Survey {
        private final Goes goes;
        private final Signs signs;
        private final Row trial = new Row();
        private final Row cheapest = new Row();
        private int leastCost;
        private int fitting;
        private boolean stale = true;

        Survey(Goes goes, Signs signs) {
            this.goes = goes;
            this.signs = signs;
        }

        void renew() {
            if (!stale) {
                return;
            }
            stale = false;
            fitting = 0;
            leastCost = -1;
            int codes = 1;
            for (int length = 0; length <= LONGEST_OF_BEST; length++) {
                for (int code = 0; code < codes; code++) {
                    if (trial.spell(code, length, goes.size)) {
                        weigh(signs.costOf(trial));
                    }
                }
                codes *= goes.size;
            }
        }

        // rows come shortest first and then by numbers: only a lower cost beats an earlier row
        private void weigh(int cost) {
            fitting += bit(cost == 0);
            if (leastCost < 0 || cost < leastCost) {
                leastCost = cost;
                cheapest.copy(trial);
            }
        }
    }

    /** The water that stands behind ICE. */
    private static final class Water {
        private static final int CLOSED = MOST_HEIGHT + 1;

        private final Ground ground;
        private final Goes goes;
        // LEVEL of each CELL; CLOSED where there is no way, and where ICE COVERS
        private final int[] surface = new int[CELLS];

        Water(Ground ground, Goes goes) {
            this.ground = ground;
            this.goes = goes;
        }

        boolean isClosed(int cell) {
            return surface[cell] == CLOSED;
        }

        void stand(int go) {
            for (int cell = 0; cell < ground.size; cell++) {
                boolean out = ground.isEdge(cell) && !goes.isCovered(go, cell);
                surface[cell] = out ? ground.height[cell] : CLOSED;
            }
            boolean sinks = true;
            for (int round = 0; round < CELLS && sinks; round++) {
                sinks = false;
                for (int cell = 0; cell < ground.size; cell++) {
                    sinks = (!goes.isCovered(go, cell) && runOut(cell)) || sinks;
                }
            }
        }

        private boolean runOut(int cell) {
            int was = surface[cell];
            for (int direction = 0; direction < DIRECTIONS; direction++) {
                int to = ground.beside[DIRECTIONS * cell + direction];
                if (to >= 0) {
                    surface[cell] = Math.min(surface[cell], Math.max(surface[to], ground.height[cell]));
                }
            }
            return surface[cell] < was;
        }

        int sumDeep() {
            int sum = 0;
            for (int cell = 0; cell < ground.size; cell++) {
                sum += isClosed(cell) ? 0 : surface[cell] - ground.height[cell];
            }
            return sum;
        }
    }

    /** The LAYERS, as masks. */
    private static final class Layers {
        private static final int ALL = (1 << LAYERS) - 1;

        private final int[] toldUnder = new int[LAYERS];
        private final int[] under = new int[LAYERS];
        private int pairs;
        private int dropped;
        private boolean stale;

        // LAYER 0 has the highest bit: of masks with as many bits the greatest is the first by numbers
        static int mask(int layer) {
            return 1 << (LAYERS - 1 - layer);
        }

        boolean isToldOver(int a, int b) {
            return (toldUnder[a] & mask(b)) != 0;
        }

        boolean isRoundAbout(int a, int b) {
            return (under[a] & mask(b)) != 0;
        }

        void turn(int a, int b) {
            pairs += isToldOver(a, b) ? -1 : 1;
            toldUnder[a] ^= mask(b);
            stale = true;
            System.arraycopy(toldUnder, 0, under, 0, LAYERS);
            for (int through = 0; through < LAYERS; through++) {
                for (int layer = 0; layer < LAYERS; layer++) {
                    if (isRoundAbout(layer, through)) {
                        under[layer] |= under[through];
                    }
                }
            }
        }

        int fewestDropped() {
            if (!stale) {
                return dropped;
            }
            stale = false;
            dropped = ALL;
            for (int tried = ALL; tried >= 0; tried--) {
                if (Integer.bitCount(tried) < Integer.bitCount(dropped) && isWithoutRing(ALL & ~tried)) {
                    dropped = tried;
                }
            }
            return dropped;
        }

        // LAYERS that lie over none of those left are taken away, as long as there are such
        private boolean isWithoutRing(int kept) {
            int left = kept;
            for (int round = 0; round < LAYERS && left != 0; round++) {
                int before = left;
                for (int layer = 0; layer < LAYERS; layer++) {
                    if ((toldUnder[layer] & left) == 0) {
                        left &= ~mask(layer);
                    }
                }
                if (left == before) {
                    return false;
                }
            }
            return left == 0;
        }
    }
}
