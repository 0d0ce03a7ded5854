import java.util.List;

/** States of an object in which its bounds are tried. */
final class States {
    private States() {
    }

    static List<Twins> all() {
        return List.of(
            new Twins("new", BoulderLand::new),
            new Twins("least land", States::least),
            new Twins("some of all", States::some),
            new Twins("all but one", () -> filled(5, 11)),
            new Twins("full", () -> filled(6, 12)),
            new Twins("greatest land", States::greatest));
    }

    private static BoulderLand least() {
        BoulderLand x = new BoulderLand();
        x.land(2, 2);
        x.cell(3, 0, 5);
        x.stone(1, 0, 1);
        x.ice(0, 6, 1, 2);
        x.sign(1, 3, 0, 4);
        x.then(0, 0);
        x.over(0, 1, true);
        return x;
    }

    private static BoulderLand some() {
        BoulderLand x = new BoulderLand();
        x.land(3, 3);
        int[] heights = {5, 0, 12, 3, 7, 30, 1, 9, 2};
        for (int c = 0; c < heights.length; c++) {
            x.cell(c, 0, heights[c]);
            x.cell(c, 1, c % 3);
        }
        x.stone(4, 1, 1);
        x.stone(8, 0, 3);
        x.ice(0, 15, 4, 6);
        x.ice(8, 15, 4, 6);
        x.flood(6);
        x.then(0, 0);
        x.then(0, 2);
        x.then(1, 1);
        x.then(2, 2);
        x.sign(0, 0, 0, 5);
        x.sign(2, 6, 0, 7);
        x.sign(4, 0, 0, 9);
        x.sign(5, 3, 9, 3);
        // what is kept between calls is kept already
        x.best();
        int[] pairs = {1, 12, 20, 56};
        for (int pair : pairs) {
            x.over(pair / 10, pair % 10, true);
        }
        x.drops();
        return x;
    }

    private static BoulderLand filled(int goes, int many) {
        BoulderLand x = new BoulderLand();
        x.land(3, 3);
        for (int c = 0; c < 9; c++) {
            x.cell(c, 0, c * 5 % 11);
            x.cell(c, 1, c % 4);
        }
        for (int go = 0; go < goes; go++) {
            if (go == 2) {
                x.flood(8);
            } else {
                x.ice(go, 15 + go, go + 1, 2 * go);
            }
            x.then(0, go);
        }
        x.then(1, 3);
        x.then(1, 1);
        for (int i = 0; i < many; i++) {
            x.stone(i % 9, i % 4, i % 9 + 1);
            x.sign(i % 6, i % 9, i % 6 == 0 ? 3 : i % 6 == 4 ? i : 0, 90 + i % 10);
        }
        for (int a = 0; a < 10; a++) {
            x.over(a, (a + 1) % 10, true);
            x.over(a, (a + 3) % 10, true);
        }
        x.best();
        return x;
    }

    private static BoulderLand greatest() {
        BoulderLand x = new BoulderLand();
        x.land(6, 6);
        for (int c = 0; c < 36; c++) {
            x.cell(c, 0, c * 7 % 30);
        }
        x.ice(35, 60, 3, 20);
        x.flood(12);
        x.stone(35, 0, 1);
        x.sign(4, 0, 0, 50);
        x.then(0, 1);
        x.then(0, 0);
        x.then(1, 0);
        x.then(2, 1);
        x.over(9, 0, true);
        return x;
    }
}
