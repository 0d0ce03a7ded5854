import java.util.ArrayList;
import java.util.HashMap;
import java.util.List;
import java.util.Map;
import java.util.TreeSet;
import java.util.stream.Collectors;
import java.util.stream.IntStream;

/**
 * The document once more, word by word: nothing is kept but what was told, and what the goes do to the land as
 * long as that stays. It shares no way of reckoning with the program where there are two ways.
 */
final class Model {
    static final int UNKNOWN = -900001, OUTSIDE = -900002, STATE = -900003, FULL = -900004, NONE = -900009;

    private record Stone(int cell, int rock, int weight) { }

    private record Go(boolean ice, int source, int top, int fall, int steps) { }

    private record Sign(int kind, int cell, int extra, int worth) { }

    private int w = 4;
    private int h = 4;
    private int[] height = new int[16];
    private int[] rock = new int[16];
    private final List<Stone> stones = new ArrayList<>();
    private final List<Go> goes = new ArrayList<>();
    private final List<Sign> signs = new ArrayList<>();
    private final List<List<Integer>> slots = List.of(new ArrayList<>(), new ArrayList<>(), new ArrayList<>());
    private final TreeSet<Integer> pairs = new TreeSet<>();
    private final Map<Integer, List<Integer>> besideOf = new HashMap<>();
    private final Map<Go, int[]> distOf = new HashMap<>();
    private final Map<Integer, Boolean> wetOf = new HashMap<>();

    // ---- helpers of the land

    private static boolean in(int v, int least, int most) {
        return v >= least && v <= most;
    }

    private boolean isCell(int c) {
        return in(c, 0, w * h - 1);
    }

    private List<Integer> cells() {
        return IntStream.range(0, w * h).boxed().collect(Collectors.toList());
    }

    private boolean beside(int a, int b) {
        return Math.abs(a % w - b % w) + Math.abs(a / w - b / w) == 1;
    }

    private List<Integer> besides(int c) {
        return besideOf.computeIfAbsent(c,
            key -> cells().stream().filter(o -> beside(c, o)).collect(Collectors.toList()));
    }

    private void forgetWhatGoesDo() {
        besideOf.clear();
        distOf.clear();
        wetOf.clear();
    }

    private boolean edge(int c) {
        return besides(c).size() < 4;
    }

    private int direction(int a, int b) {
        if (b == a + 1) {
            return b % w == 0 ? (w == 1 ? 1 : NONE) : 0;
        }
        if (b == a - 1) {
            return a % w == 0 ? NONE : 2;
        }
        return b > a ? 1 : 3;
    }

    // ---- helpers of goes

    private int dist(Go go, int cell) {
        return distOf.computeIfAbsent(go, this::dists)[cell];
    }

    private int[] dists(Go go) {
        int[] d = new int[w * h];
        java.util.Arrays.fill(d, -1);
        if (go.top > height[go.source]) {
            d[go.source] = 0;
        }
        for (int round = 0; round < w * h; round++) {
            for (int c : cells()) {
                int r = round;
                if (d[c] < 0 && besides(c).stream().anyMatch(o -> d[o] == r)
                    && go.top - go.fall * (round + 1) > height[c]) {
                    d[c] = round + 1;
                }
            }
        }
        return d;
    }

    private boolean covered(Go go, int cell) {
        return go.ice ? dist(go, cell) >= 0 : wetOf.computeIfAbsent(100 * cell + go.top, k -> wet(go.top, cell));
    }

    private boolean wet(int level, int cell) {
        TreeSet<Integer> seen = new TreeSet<>();
        List<Integer> todo = new ArrayList<>();
        todo.add(cell);
        while (!todo.isEmpty()) {
            int c = todo.remove(todo.size() - 1);
            if (height[c] < level && seen.add(c)) {
                todo.addAll(besides(c));
            }
        }
        return seen.stream().anyMatch(this::edge);
    }

    /** The CELL to which ICE flows, or NONE. */
    private int flowsTo(Go go, int cell) {
        if (!go.ice || !covered(go, cell)) {
            return NONE;
        }
        int d = dist(go, cell);
        return besides(cell).stream().filter(o -> dist(go, o) == d + 1).min(Integer::compare).orElse(NONE);
    }

    private int bring(Go go, int cell, int weight) {
        if (!covered(go, cell)) {
            return cell;
        }
        if (go.ice) {
            int at = cell;
            for (int left = go.steps / weight; left > 0 && flowsTo(go, at) != NONE; left--) {
                at = flowsTo(go, at);
            }
            return at;
        }
        if (weight > 2) {
            return cell;
        }
        int lowest = cell;
        for (int o : besides(cell)) {
            if (covered(go, o) && height[o] < height[lowest]) {
                lowest = o;
            }
        }
        return lowest;
    }

    private int end(List<Integer> story, int cell, int weight) {
        int at = cell;
        for (int go : story) {
            at = bring(goes.get(go), at, weight);
        }
        return at;
    }

    private List<Integer> sources(List<Integer> story, Stone stone) {
        return cells().stream().filter(c -> rock[c] == stone.rock && end(story, c, stone.weight) == stone.cell)
            .collect(Collectors.toList());
    }

    // ---- helpers of signs

    private boolean flowsIn(int go, int cell, int direction) {
        int to = flowsTo(goes.get(go), cell);
        return to != NONE && direction(cell, to) == direction;
    }

    private boolean explained(List<Integer> story, Sign s) {
        int c = s.cell;
        switch (s.kind) {
            case 0:
                return story.stream().anyMatch(g -> flowsIn(g, c, s.extra));
            case 1:
                return story.stream().map(goes::get).anyMatch(g -> g.ice && covered(g, c) && flowsTo(g, c) == NONE);
            case 2:
                return story.stream().map(goes::get).anyMatch(g -> !g.ice && covered(g, c));
            case 3:
                return story.stream().map(goes::get).noneMatch(g -> g.ice && covered(g, c));
            case 4:
                return !sources(story, stones.get(s.extra)).isEmpty();
            default:
                for (int i = 0; i < story.size(); i++) {
                    for (int j = i + 1; j < story.size(); j++) {
                        if (flowsIn(story.get(i), c, s.extra % 4) && flowsIn(story.get(j), c, s.extra / 4)) {
                            return true;
                        }
                    }
                }
                return false;
        }
    }

    private int cost(List<Integer> story) {
        return signs.stream().filter(s -> !explained(story, s)).mapToInt(Sign::worth).sum();
    }

    private List<List<Integer>> rows() {
        List<List<Integer>> all = new ArrayList<>();
        List<List<Integer>> last = List.of(List.of());
        for (int length = 0; length <= 3; length++) {
            all.addAll(last);
            List<List<Integer>> longer = new ArrayList<>();
            for (List<Integer> row : last) {
                for (int g = 0; g < goes.size(); g++) {
                    if (!row.contains(g)) {
                        List<Integer> more = new ArrayList<>(row);
                        more.add(g);
                        longer.add(more);
                    }
                }
            }
            last = longer;
        }
        return all;
    }

    private List<Integer> bestRow() {
        List<Integer> best = null;
        int least = Integer.MAX_VALUE;
        for (List<Integer> row : rows()) {
            int cost = cost(row);
            if (cost < least) {
                least = cost;
                best = row;
            }
        }
        return best;
    }

    private List<Integer> places(int a, int b) {
        List<Integer> found = new ArrayList<>();
        for (int c : cells()) {
            for (int thing = 0; thing < 7; thing++) {
                Sign s = thing < 4 ? new Sign(0, c, thing, 1) : new Sign(thing - 3, c, 0, 1);
                if (explained(slots.get(a), s) != explained(slots.get(b), s)) {
                    found.add(10 * c + thing);
                }
            }
        }
        return found;
    }

    // ---- helpers of lakes: LEVEL is the least height at which one gets out over nothing higher

    private int surface(Go go, int cell) {
        for (int level = height[cell]; level <= 99; level++) {
            TreeSet<Integer> seen = new TreeSet<>();
            List<Integer> todo = new ArrayList<>(List.of(cell));
            while (!todo.isEmpty()) {
                int c = todo.remove(todo.size() - 1);
                if (height[c] <= level && !covered(go, c) && seen.add(c)) {
                    todo.addAll(besides(c));
                }
            }
            if (seen.stream().anyMatch(this::edge)) {
                return level;
            }
        }
        return NONE;
    }

    // ---- helpers of layers

    private boolean roundAbout(int a, int b, TreeSet<Integer> without) {
        TreeSet<Integer> seen = new TreeSet<>();
        List<Integer> todo = new ArrayList<>(List.of(a));
        while (!todo.isEmpty()) {
            int at = todo.remove(todo.size() - 1);
            for (int to = 0; to < 10; to++) {
                if (pairs.contains(10 * at + to) && !without.contains(at) && !without.contains(to) && seen.add(to)) {
                    todo.add(to);
                }
            }
        }
        return seen.contains(b);
    }

    private boolean ringless(TreeSet<Integer> without) {
        return IntStream.range(0, 10).noneMatch(l -> roundAbout(l, l, without));
    }

    private TreeSet<Integer> toDrop() {
        for (int n = 0; n <= 10; n++) {
            TreeSet<Integer> found = choose(n, 0, new TreeSet<>());
            if (found != null) {
                return found;
            }
        }
        return new TreeSet<>();
    }

    private TreeSet<Integer> choose(int n, int from, TreeSet<Integer> chosen) {
        if (n == 0) {
            return ringless(chosen) ? new TreeSet<>(chosen) : null;
        }
        for (int layer = from; layer < 10; layer++) {
            chosen.add(layer);
            TreeSet<Integer> found = choose(n - 1, layer + 1, chosen);
            chosen.remove(layer);
            if (found != null) {
                return found;
            }
        }
        return null;
    }

    private static int nth(Iterable<Integer> all, int i) {
        int at = 0;
        for (int one : all) {
            if (at++ == i) {
                return one;
            }
        }
        return NONE;
    }

    // ---- the calls

    int land(int toW, int toH) {
        if (!in(toW, 2, 6) || !in(toH, 2, 6)) {
            return OUTSIDE;
        }
        w = toW;
        h = toH;
        height = new int[w * h];
        rock = new int[w * h];
        forgetWhatGoesDo();
        stones.clear();
        goes.clear();
        signs.clear();
        slots.forEach(List::clear);
        return w * h;
    }

    int cell(int cell, int what, int v) {
        if (!isCell(cell)) {
            return UNKNOWN;
        }
        if (what != 0 && what != 1 || v < 0 || v > (what == 0 ? 99 : 5)) {
            return OUTSIDE;
        }
        int[] of = what == 0 ? height : rock;
        int was = of[cell];
        of[cell] = v;
        forgetWhatGoesDo();
        return was;
    }

    int stone(int cell, int ofRock, int weight) {
        if (!isCell(cell)) {
            return UNKNOWN;
        }
        if (!in(ofRock, 0, 5) || !in(weight, 1, 9)) {
            return OUTSIDE;
        }
        if (stones.size() == 12) {
            return FULL;
        }
        stones.add(new Stone(cell, ofRock, weight));
        return stones.size() - 1;
    }

    int dug(int stone, int cell) {
        if (!in(stone, 0, stones.size() - 1) || !isCell(cell)) {
            return UNKNOWN;
        }
        Stone was = stones.get(stone);
        stones.set(stone, new Stone(cell, was.rock, was.weight));
        return was.cell;
    }

    int ice(int source, int top, int fall, int steps) {
        if (!isCell(source)) {
            return UNKNOWN;
        }
        if (!in(top, 1, 199) || !in(fall, 1, 20) || !in(steps, 0, 20)) {
            return OUTSIDE;
        }
        return tell(new Go(true, source, top, fall, steps));
    }

    int flood(int level) {
        return in(level, 1, 99) ? tell(new Go(false, 0, level, 0, 0)) : OUTSIDE;
    }

    private int tell(Go go) {
        if (goes.size() == 6) {
            return FULL;
        }
        goes.add(go);
        return goes.size() - 1;
    }

    private boolean isGo(int go) {
        return in(go, 0, goes.size() - 1);
    }

    int covers(int go) {
        return isGo(go) ? (int) cells().stream().filter(c -> covered(goes.get(go), c)).count() : UNKNOWN;
    }

    int by(int go, int cell, int what) {
        if (!isGo(go) || !isCell(cell)) {
            return UNKNOWN;
        }
        if (!in(what, 0, 4)) {
            return OUTSIDE;
        }
        Go g = goes.get(go);
        boolean iced = g.ice && covered(g, cell);
        int to = flowsTo(g, cell);
        int[] answers = {
            covered(g, cell) ? 1 : 0,
            iced ? dist(g, cell) : NONE,
            iced ? g.top - g.fall * dist(g, cell) - height[cell] : NONE,
            to == NONE ? NONE : direction(cell, to),
            iced && to == NONE ? 1 : 0};
        return answers[what];
    }

    int brings(int go, int cell, int weight) {
        if (!isGo(go) || !isCell(cell)) {
            return UNKNOWN;
        }
        return in(weight, 1, 9) ? bring(goes.get(go), cell, weight) : OUTSIDE;
    }

    int then(int slot, int go) {
        if (!in(slot, 0, 2) || !isGo(go)) {
            return UNKNOWN;
        }
        if (slots.get(slot).contains(go)) {
            return STATE;
        }
        slots.get(slot).add(go);
        return slots.get(slot).size();
    }

    int clear(int slot) {
        if (!in(slot, 0, 2)) {
            return UNKNOWN;
        }
        int had = slots.get(slot).size();
        slots.get(slot).clear();
        return had;
    }

    int told(int slot, int i) {
        return in(slot, 0, 2) ? nth(slots.get(slot), i) : UNKNOWN;
    }

    int ends(int slot, int cell, int weight) {
        if (!in(slot, 0, 2) || !isCell(cell)) {
            return UNKNOWN;
        }
        return in(weight, 1, 9) ? end(slots.get(slot), cell, weight) : OUTSIDE;
    }

    int whence(int slot, int stone) {
        if (!in(slot, 0, 2) || !in(stone, 0, stones.size() - 1)) {
            return UNKNOWN;
        }
        return sources(slots.get(slot), stones.get(stone)).size();
    }

    int from(int slot, int stone, int i) {
        if (!in(slot, 0, 2) || !in(stone, 0, stones.size() - 1)) {
            return UNKNOWN;
        }
        return nth(sources(slots.get(slot), stones.get(stone)), i);
    }

    int sign(int kind, int cell, int extra, int worth) {
        if (!in(kind, 0, 5)) {
            return OUTSIDE;
        }
        if (kind == 4 ? !in(extra, 0, stones.size() - 1) : !isCell(cell)) {
            return UNKNOWN;
        }
        int[] most = {3, 0, 0, 0, 11, 15};
        if (!in(extra, 0, most[kind]) || !in(worth, 1, 99)) {
            return OUTSIDE;
        }
        if (signs.size() == 12) {
            return FULL;
        }
        signs.add(new Sign(kind, cell, extra, worth));
        return signs.size() - 1;
    }

    int forget(int sign) {
        return in(sign, 0, signs.size() - 1) ? signs.remove(sign).worth : UNKNOWN;
    }

    int explains(int slot, int sign) {
        if (!in(slot, 0, 2) || !in(sign, 0, signs.size() - 1)) {
            return UNKNOWN;
        }
        return explained(slots.get(slot), signs.get(sign)) ? 1 : 0;
    }

    int costs(int slot) {
        return in(slot, 0, 2) ? cost(slots.get(slot)) : UNKNOWN;
    }

    int fits() {
        return (int) rows().stream().filter(r -> cost(r) == 0).count();
    }

    int best() {
        return cost(bestRow());
    }

    int bestGo(int i) {
        return nth(bestRow(), i);
    }

    int take(int slot) {
        if (!in(slot, 0, 2)) {
            return UNKNOWN;
        }
        List<Integer> row = bestRow();
        slots.get(slot).clear();
        slots.get(slot).addAll(row);
        return row.size();
    }

    int unlike(int a, int b) {
        return in(a, 0, 2) && in(b, 0, 2) ? places(a, b).size() : UNKNOWN;
    }

    int look(int a, int b, int i) {
        return in(a, 0, 2) && in(b, 0, 2) ? nth(places(a, b), i) : UNKNOWN;
    }

    int level(int go, int cell) {
        if (!isGo(go) || !isCell(cell)) {
            return UNKNOWN;
        }
        Go g = goes.get(go);
        return !g.ice || covered(g, cell) ? STATE : surface(g, cell);
    }

    int lake(int go) {
        if (!isGo(go)) {
            return UNKNOWN;
        }
        Go g = goes.get(go);
        if (!g.ice) {
            return STATE;
        }
        return cells().stream().filter(c -> !covered(g, c) && surface(g, c) != NONE)
            .mapToInt(c -> surface(g, c) - height[c]).sum();
    }

    int sunk(int slot, int cell, int n) {
        if (!in(slot, 0, 2) || !isCell(cell)) {
            return UNKNOWN;
        }
        if (!in(n, 0, slots.get(slot).size())) {
            return OUTSIDE;
        }
        int deep = 0;
        for (int go : slots.get(slot).subList(0, n)) {
            deep /= 2;
            if (by(go, cell, 2) != NONE) {
                deep += by(go, cell, 2) / 4;
            }
        }
        return deep;
    }

    int over(int a, int b, boolean is) {
        if (!in(a, 0, 9) || !in(b, 0, 9)) {
            return UNKNOWN;
        }
        if (a == b) {
            return STATE;
        }
        int pair = 10 * a + b;
        boolean changed = is ? pairs.add(pair) : pairs.remove(pair);
        return changed != is ? 1 : 0;
    }

    int above(int a, int b) {
        return in(a, 0, 9) && in(b, 0, 9) ? (roundAbout(a, b, new TreeSet<>()) ? 1 : 0) : UNKNOWN;
    }

    int ring() {
        return (int) IntStream.range(0, 10).filter(l -> above(l, l) == 1).count();
    }

    int drops() {
        return toDrop().size();
    }

    int drop(int i) {
        return nth(toDrop(), i);
    }

    int count(int what) {
        int[] counts = {w * h, stones.size(), goes.size(), signs.size(), pairs.size()};
        return in(what, 0, 4) ? counts[what] : OUTSIDE;
    }
}
