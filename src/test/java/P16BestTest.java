/** Promise 16, best. */
public final class P16BestTest {
    public static void main(String[] args) {
        wrongInputs();
        leastGap();
        window();
        tolerance();
        nothingChanges();
        asForetellTells();
        Due.end();
    }

    private static void wrongInputs() {
        LabelApplicator x = Due.with("9*(l47g3)");
        int[] wrong = {-1, 2, 3, 4, 6, 7, 8, Integer.MIN_VALUE, Integer.MAX_VALUE};
        for (int what : wrong) {
            Due.be("best(" + what + ", 1, 1)", x.best(what, 1, 1), Due.BAD);
        }
        int[] right = {0, 1, 5};
        for (int what : right) {
            Due.be("no products", x.best(what, 0, 1), Due.BAD);
            Due.be("-1 products", x.best(what, -1, 1), Due.BAD);
            Due.be("101 products", x.best(what, 101, 1), Due.BAD);
            Due.be("speed -1", x.best(what, 1, -1), Due.BAD);
            Due.be("speed 1001", x.best(what, 1, 1001), Due.BAD);
            Due.be("100 products", x.best(what, 100, 50), what == 0 ? 1 : 0);
        }
    }

    private static void leastGap() {
        LabelApplicator x = Due.with("4*(b40g5l1g9)");
        Due.be("best(0, 3, 50)", x.best(0, 3, 50), 6);
        Due.be("foretell", x.foretell(3, 50, 0), 2);
        x.set(0, 6);
        Due.be("foretell", x.foretell(3, 50, 0), 3);
        Due.be("best(0, 1, 50)", x.best(0, 1, 50), 6);
        LabelApplicator y = Due.with("b18g29l1g30");
        y.set(1, 28);
        Due.be("the greatest of all", y.best(0, 1, 50), 30);
        Due.be("nothing is good", new LabelApplicator().best(0, 5, 50), 1);
        Due.be("no web", new LabelApplicator().best(1, 5, 50), 0);
        Due.be("no web at all", new LabelApplicator().best(5, 5, 50), 0);
    }

    private static void window() {
        LabelApplicator x = Due.with("9*(l40g3)");
        Due.be("best(1, 5, 50)", x.best(1, 5, 50), 7);
        x.setPitch(930);
        Due.be("the greatest of all", x.best(1, 1, 50), 50);
        x.setPitch(931);
        Due.be("none is enough", x.best(1, 1, 50), 0);
        x.setPitch(430);
        Due.be("none is needed", x.best(1, 9, 50), 0);
        x.setPitch(420);
        Due.be("one too late", x.best(1, 9, 50), 1);
    }

    private static void tolerance() {
        LabelApplicator x = Due.with("9*(l47g3)");
        Due.be("best(5, 9, 300)", x.best(5, 9, 300), 100);
        Due.be("best(5, 9, 130)", x.best(5, 9, 130), 30);
        Due.be("best(5, 9, 101)", x.best(5, 9, 101), 1);
        Due.be("best(5, 1, 201)", x.best(5, 1, 201), 0);
        Due.be("best(5, 1, 200)", x.best(5, 1, 200), 100);
        Due.be("best(5, 2, 100)", x.best(5, 2, 100), 0);
    }

    private static void nothingChanges() {
        LabelApplicator x = Due.with("9*(l45g3)");
        x.run(2, 130);
        x.save(1);
        long before = x.digest();
        x.best(0, 9, 300);
        x.best(1, 9, 300);
        x.best(5, 9, 300);
        Due.be("digest", x.digest(), before);
        Due.countsBe("settings", x, 15, 3, 5, 150, 400, 100, 10, 2, 3);
        Due.be("restore(1)", x.restore(1), 14);
        Due.be("digest", x.digest(), before);
        LabelApplicator y = Due.with("l47g3");
        y.unload();
        y.run(3, 0);
        y.load();
        Due.be("stopped", y.count(14), 1);
        Due.be("best when stopped", y.best(5, 1, 17), 0);
        Due.be("best when stopped", y.best(5, 1, 117), 17);
        Due.be("still stopped", y.count(14), 1);
    }

    private static void asForetellTells() {
        LabelApplicator x = Due.with("2*(l44g2) l40g6 b20g5l5g9 2*(l47g4 b9g7) l30g8l41g3 l50g5 b20g1l9g3 l47g30");
        int[] settings = {0, 1, 5};
        int[] least = {1, 0, 0};
        int[] greatest = {30, 50, 100};
        for (int k = 0; k < 3; k++) {
            int before = x.count(15 + settings[k]);
            int best = -1;
            int most = -1;
            for (int value = least[k]; value <= greatest[k]; value++) {
                x.set(settings[k], value);
                int good = x.foretell(10, 140, 0);
                if (good > most) {
                    most = good;
                    best = value;
                }
            }
            Due.be("best of " + settings[k] + " from the end", x.best(settings[k], 10, 140), best);
            x.set(settings[k], before);
            Due.be("best of " + settings[k], x.best(settings[k], 10, 140), best);
        }
    }
}
