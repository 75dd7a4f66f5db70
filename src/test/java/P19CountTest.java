/** Promise 19, count. */
public final class P19CountTest {
    public static void main(String[] args) {
        LabelApplicator x = new LabelApplicator();
        int[] wrong = {-1, 32, Integer.MIN_VALUE, Integer.MAX_VALUE};
        for (int what : wrong) {
            Due.be("count(" + what + ")", x.count(what), Due.BAD);
        }
        Due.be("load", Due.load(x, "l47g3 l20l27g3 s3l44g3 b47g3 l55g4 b99b99 l47g3 2*(l40b5)"), 20);
        Due.countsBe("loaded", x, 0, 20, 8, 597, 0, 4, 0, 0);
        Due.be("count(23)", x.count(23), 57);
        x.set(7, 6);
        x.set(4, 40);
        Due.be("run", x.run(8, 50), 8);
        // reasons 7? the first at 40: within 10, so 0; then 5, 3, 4, 6, 2, 0, 1
        Due.countsBe("run", x, 0, 0, 0, 0, 50, 4, 4, 8, 1, 3, 2, 6, 1, 1, 1, 0);
        Due.countsBe("reasons", x, 24, 2, 1, 1, 1, 1, 1, 1, 0);
        x.load();
        x.set(4, 1);
        x.run(1, 100);
        Due.countsBe("a wrong speed", x, 24, 2, 1, 1, 1, 1, 1, 1, 1);
        Due.countsBe("a wrong speed", x, 0, 18, 7, 547, 51, 4, 4, 9, 1, 4, 2, 7, 1, 1, 0, 0);
        settings();
        stopped();
        Due.end();
    }

    private static void settings() {
        LabelApplicator x = new LabelApplicator();
        int[] values = {9, 8, 77, 6, 55, 44, 3, 2};
        for (int what = 0; what < 8; what++) {
            x.set(what, values[what]);
        }
        Due.countsBe("settings", x, 15, values);
    }

    private static void stopped() {
        LabelApplicator x = new LabelApplicator();
        x.run(2, 9);
        Due.countsBe("two faults", x, 13, 2, 0);
        x.run(2, 9);
        Due.countsBe("three faults", x, 13, 3, 1);
        Due.countsBe("empty", x, 3, 9, 4, 3, 3, 0, 0, 0, 0, 0, 0);
        Due.be("count(25)", x.count(25), 3);
    }
}
