/** Promise 9, setRing. */
public final class P09SetRingTest {
    public static void main(String[] args) {
        LabelApplicator x = Due.with("l47g3b47g3l47g3");
        int[] wrong = {0, 11, -1, Integer.MIN_VALUE, Integer.MAX_VALUE};
        x.run(3, 50);
        for (int stations : wrong) {
            Due.be("setRing(" + stations + ")", x.setRing(stations), Due.BAD);
            Due.countsBe("as before", x, 4, 4, 3, 3, 0, 0);
        }
        Due.be("setRing(4)", x.setRing(4), 3);
        Due.countsBe("let out", x, 4, 4, 0, 3, 2, 1);
        Due.be("station(0)", x.station(0), Due.NONE);
        Due.be("station(2)", x.station(2), Due.NONE);
        Due.be("setRing(1) of none", x.setRing(1), 0);
        Due.countsBe("one station", x, 4, 1, 0, 3, 2, 1);
        Due.be("station(1)", x.station(1), Due.BAD);
        moves(x);
        Due.end();
    }

    private static void moves(LabelApplicator x) {
        x.set(7, 9);
        x.run(1, 50);
        Due.countsBe("the only one", x, 5, 1, 4, 2, 1);
        x.run(1, 50);
        Due.countsBe("the next lets it out", x, 5, 1, 5, 2, 2);
        Due.be("setRing(10)", x.setRing(10), 1);
        Due.countsBe("ten stations", x, 4, 10, 0, 5, 2, 3);
        x.clearFaults();
        x.load();
        x.run(3, 50);
        x.run(6, 50);
        Due.countsBe("nine of ten", x, 5, 9, 14, 2, 3);
        Due.be("station(8)", x.station(8), 0);
        Due.be("station(9)", x.station(9), Due.NONE);
        x.run(1, 50);
        Due.countsBe("ten of ten", x, 5, 10, 15, 2, 3);
        Due.be("station(9)", x.station(9), 0);
        x.run(1, 50);
        Due.countsBe("the first leaves", x, 5, 10, 16, 3, 3);
        Due.be("station(9)", x.station(9), 4);
        Due.be("setRing(2) of ten", x.setRing(2), 10);
        Due.countsBe("all let out", x, 4, 2, 0, 16, 4, 12);
        x.setRing(10);
        for (int i = 0; i < 10; i++) {
            Due.be("empty station " + i, x.station(i), Due.NONE);
        }
    }
}
