/** Promise 7, set. */
public final class P07SetTest {
    private static final int[] LEAST = {1, 0, 10, 1, 1, 0, 0, 1};
    private static final int[] GREATEST = {30, 50, 400, 1000, 1000, 100, 8, 9};
    private static final int[] FIRST = {3, 5, 150, 400, 100, 10, 2, 3};

    public static void main(String[] args) {
        ranges();
        oneAtATime();
        stopping();
        Due.end();
    }

    private static void ranges() {
        LabelApplicator x = new LabelApplicator();
        for (int what = 0; what < 8; what++) {
            Due.be("set to the least", x.set(what, LEAST[what]), FIRST[what]);
            Due.be("below the least of " + what, x.set(what, LEAST[what] - 1), Due.BAD);
            Due.be("count", x.count(15 + what), LEAST[what]);
            Due.be("set to the greatest", x.set(what, GREATEST[what]), LEAST[what]);
            Due.be("above the greatest of " + what, x.set(what, GREATEST[what] + 1), Due.BAD);
            Due.be("least int", x.set(what, Integer.MIN_VALUE), Due.BAD);
            Due.be("greatest int", x.set(what, Integer.MAX_VALUE), Due.BAD);
            Due.be("count", x.count(15 + what), GREATEST[what]);
        }
        Due.be("set(-1, 5)", x.set(-1, 5), Due.BAD);
        Due.be("set(8, 5)", x.set(8, 5), Due.BAD);
        Due.be("set of the least int", x.set(Integer.MIN_VALUE, 5), Due.BAD);
        Due.be("set of the greatest int", x.set(Integer.MAX_VALUE, 5), Due.BAD);
        Due.countsBe("greatest", x, 15, GREATEST);
    }

    private static void oneAtATime() {
        for (int what = 0; what < 8; what++) {
            LabelApplicator x = new LabelApplicator();
            x.set(what, LEAST[what]);
            for (int other = 0; other < 8; other++) {
                Due.be("setting " + other, x.count(15 + other), other == what ? LEAST[other] : FIRST[other]);
            }
        }
    }

    private static void stopping() {
        LabelApplicator x = new LabelApplicator();
        x.run(2, 0);
        Due.be("less patience", x.set(7, 1), 3);
        Due.be("it does not stop by it", x.count(14), 0);
        Due.be("it stops behind the next", x.run(5, 0), 1);
        Due.be("stopped", x.count(14), 1);
        Due.be("more patience", x.set(7, 9), 1);
        Due.be("it stays stopped", x.count(14), 1);
        Due.be("run(1, 0)", x.run(1, 0), Due.STATE);

        LabelApplicator y = Due.with("l47g3");
        y.unload();
        y.run(2, 0);
        y.set(7, 1);
        y.load();
        Due.be("a good one behind two faults", y.run(1, 100), 1);
        Due.be("it does not stop behind that", y.count(14), 0);
    }
}
