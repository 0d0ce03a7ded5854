import java.util.ArrayList;
import java.util.List;
import java.util.function.Supplier;

/**
 * A state of an object, made anew as often as it is wanted: of two objects in it one is asked what it refuses, and
 * then both must answer alike. No object is asked more than 512 times.
 */
final class Twins {
    interface Call {
        int of(BoulderLand x);
    }

    private static final int PARTS = 5;
    private static final int LAYERS = 10;

    final String name;
    final int cells;
    final int stones;
    final int goes;
    final int signs;
    private final Supplier<BoulderLand> maker;
    private final List<List<Integer>> untouched = new ArrayList<>();

    Twins(String name, Supplier<BoulderLand> maker) {
        this.name = name;
        this.maker = maker;
        BoulderLand x = maker.get();
        cells = x.count(0);
        stones = x.count(1);
        goes = x.count(2);
        signs = x.count(3);
        for (int part = 0; part < PARTS; part++) {
            untouched.add(ask(maker.get(), part));
        }
    }

    /** The call answers as due, and all is then as if it had not been made. */
    void same(String what, Call call, int want) {
        for (int part = 0; part < PARTS; part++) {
            BoulderLand x = maker.get();
            Check.due(name + ": " + what, call.of(x), want);
            Check.so(name + ": " + what + " changes nothing (part " + part + ")",
                ask(x, part).equals(untouched.get(part)));
        }
    }

    /** The call answers as due, and something is then otherwise: what is asked here would show it. */
    void other(String what, Call call, int want) {
        boolean is = false;
        for (int part = 0; part < PARTS; part++) {
            BoulderLand x = maker.get();
            Check.due(name + ": " + what, call.of(x), want);
            is = is || !ask(x, part).equals(untouched.get(part));
        }
        Check.so(name + ": " + what + " can be seen", is);
    }

    /** The call answers as due, and all but the LAYERS is then as on a new object of which it was asked. */
    void alike(String what, Call call, int want) {
        Twins fresh = new Twins("new", () -> {
            BoulderLand y = new BoulderLand();
            call.of(y);
            return y;
        });
        for (int part = 0; part < PARTS; part++) {
            BoulderLand x = maker.get();
            Check.due(name + ": " + what, call.of(x), want);
            for (int a = 0; a < LAYERS; a++) {
                x.over(a, (a + 1) % LAYERS, false);
                x.over(a, (a + 3) % LAYERS, false);
                x.over(a, (a + 8) % LAYERS, false);
            }
            Check.so(name + ": " + what + " leaves it new (part " + part + ")",
                fresh.ask(x, part).equals(fresh.untouched.get(part)));
        }
    }

    private List<Integer> ask(BoulderLand x, int part) {
        List<Integer> answers = new ArrayList<>();
        for (int what = 0; what <= 4; what++) {
            answers.add(x.count(what));
        }
        switch (part) {
            case 0:
                askGoes(x, answers);
                break;
            case 1:
                askStories(x, answers);
                break;
            case 2:
                askSigns(x, answers);
                break;
            case 3:
                askLayers(x, answers);
                break;
            default:
                changeAll(x, answers);
        }
        return answers;
    }

    private void askGoes(BoulderLand x, List<Integer> answers) {
        for (int go = 0; go <= goes; go++) {
            answers.add(x.covers(go));
            answers.add(x.lake(go));
            for (int c = go % 2; c < cells; c += 2) {
                answers.add(x.by(go, c, 2));
                answers.add(x.by(go, c, 3));
                answers.add(x.brings(go, c, 1));
            }
        }
    }

    private void askStories(BoulderLand x, List<Integer> answers) {
        for (int slot = 0; slot <= 2; slot++) {
            for (int i = 0; i <= 6; i++) {
                answers.add(x.told(slot, i));
            }
            for (int stone = 0; stone <= stones; stone++) {
                answers.add(x.whence(slot, stone));
                answers.add(x.from(slot, stone, 0));
            }
            for (int c = 0; c < cells; c++) {
                answers.add(x.ends(slot, c, 2));
                answers.add(x.sunk(slot, c, 1));
            }
        }
    }

    private void askSigns(BoulderLand x, List<Integer> answers) {
        answers.add(x.best());
        answers.add(x.fits());
        for (int slot = 0; slot <= 2; slot++) {
            answers.add(x.bestGo(slot));
            answers.add(x.costs(slot));
            answers.add(x.unlike(slot, (slot + 1) % 3));
            for (int sign = 0; sign <= signs; sign++) {
                answers.add(x.explains(slot, sign));
            }
            for (int i = 0; i < 60; i++) {
                answers.add(x.look(slot, (slot + 1) % 3, i));
            }
        }
    }

    private void askLayers(BoulderLand x, List<Integer> answers) {
        answers.add(x.ring());
        answers.add(x.drops());
        for (int a = 0; a < LAYERS; a++) {
            answers.add(x.drop(a));
            for (int b = 0; b < LAYERS; b++) {
                answers.add(x.above(a, b));
                answers.add(x.over(a, b, true));
            }
        }
    }

    // what is told from now on: numbers given, what was before, and what is reckoned anew of it
    private void changeAll(BoulderLand x, List<Integer> answers) {
        for (int c = 0; c < cells; c++) {
            answers.add(x.cell(c, 1, c % 2));
            answers.add(x.cell(c, 0, c % 5));
        }
        answers.add(x.ice(0, 9, 1, 3));
        answers.add(x.flood(3));
        answers.add(x.then(2, 0));
        answers.add(x.stone(1, 1, 1));
        answers.add(x.sign(2, 1, 0, 3));
        for (int stone = 0; stone <= stones; stone++) {
            answers.add(x.dug(stone, stone % cells));
            answers.add(x.whence(0, stone));
        }
        answers.add(x.best());
        answers.add(x.fits());
        for (int slot = 0; slot <= 2; slot++) {
            answers.add(x.bestGo(slot));
            answers.add(x.costs(slot));
            answers.add(x.take(slot));
        }
        for (int sign = 0; sign <= signs; sign++) {
            answers.add(x.forget(0));
        }
        answers.add(x.land(3, 4));
        answers.add(x.stone(11, 0, 1));
        answers.add(x.flood(1));
        answers.add(x.best());
        answers.add(x.ring());
    }
}
