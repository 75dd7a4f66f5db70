/** Promise 10, run, and the sections on cycles, reasons, and faults in a row. */
public final class P10RunTest {
    public static void main(String[] args) {
        wrongInputs();
        endings();
        reasons();
        speeds();
        faultsInARow();
        learning();
        labels();
        Due.end();
    }

    private static void wrongInputs() {
        LabelApplicator x = Due.with("l47g3");
        int[][] wrong = {{0, 1}, {-1, 1}, {101, 1}, {1, -1}, {1, 1001}, {Integer.MIN_VALUE, 0}, {Integer.MAX_VALUE, 0},
            {1, Integer.MIN_VALUE}, {1, Integer.MAX_VALUE}};
        long before = x.digest();
        for (int[] row : wrong) {
            Due.be("run(" + row[0] + ", " + row[1] + ")", x.run(row[0], row[1]), Due.BAD);
        }
        Due.be("nothing changed", x.digest(), before);
        Due.be("run(100, 1000)", x.run(100, 1000), 4);
        before = x.digest();
        for (int[] row : wrong) {
            Due.be("stopped: run(" + row[0] + ", " + row[1] + ")", x.run(row[0], row[1]), Due.BAD);
        }
        Due.be("stopped: run(1, 0)", x.run(1, 0), Due.STATE);
        Due.be("nothing changed", x.digest(), before);
        LabelApplicator y = Due.with("40*(l47g3)");
        y.set(7, 9);
        Due.be("run(100, 0)", y.run(100, 0), 49);
    }

    /** One cycle with the settings of a new object, at speed 50, so the reason 7 does not apply. */
    private static void cycleIs(String web, int... latest) {
        LabelApplicator x = Due.with(web);
        int items = x.count(0);
        Due.be("run(1, 50) with " + web, x.run(1, 50), 1);
        Due.latestBe(web, x, latest);
        Due.be(web + ": items left", x.count(0), items - latest[4]);
        Due.be(web + ": station(0)", x.station(0), latest[2]);
        Due.be(web + ": came with the reason", x.count(24 + latest[2]), 1);
    }

    private static void endings() {
        cycleIs("", 0, 0, 1, 50, 0, 3);
        cycleIs("l47g3l47g3", 50, 1, 0, 50, 2, 1);
        cycleIs("l47", 47, 1, 1, 50, 1, 3);
        // the window: 45 is enough, 44 is not
        cycleIs("l42g3g3", 45, 1, 0, 50, 2, 1);
        cycleIs("l41g3l9", 53, 2, 1, 50, 3, 3);
        cycleIs("l41g3g3", 47, 1, 0, 50, 3, 1);
        // the least gap: 3 is enough, 2 is not; only gaps mark
        cycleIs("l47g2g2", 51, 1, 1, 50, 3, 3);
        cycleIs("l45g2g3g5", 50, 1, 0, 50, 3, 1);
        cycleIs("l47b3s5l5", 60, 2, 1, 50, 4, 3);
        // late: 55 is not, 56 is
        cycleIs("l52g3", 55, 1, 0, 50, 2, 1);
        cycleIs("l53g3", 56, 1, 6, 50, 2, 1);
        // the greatest feed: 150 is allowed, 151 is lost, but a mark comes first
        cycleIs("l99l51", 150, 2, 1, 50, 2, 3);
        cycleIs("l99l52", 151, 2, 2, 50, 2, 2);
        cycleIs("l99l52g3", 151, 2, 2, 50, 2, 2);
        cycleIs("l99b50g3", 152, 1, 6, 50, 3, 1);
        cycleIs("l99b50g2g3", 151, 1, 2, 50, 3, 2);
        cycleIs("l99b51g3", 153, 1, 6, 50, 3, 1);
    }

    private static void reasons() {
        cycleIs("s3l40b99b9", 151, 1, 2, 50, 4, 2);
        cycleIs("s3l40", 43, 1, 1, 50, 2, 3);
        cycleIs("s3l44g3", 50, 1, 3, 50, 3, 1);
        cycleIs("b44s3g3", 50, 0, 3, 50, 3, 1);
        cycleIs("s3l20l40g3", 66, 2, 3, 50, 4, 1);
        cycleIs("b47g3", 50, 0, 4, 50, 2, 1);
        cycleIs("b99g3", 102, 0, 4, 50, 2, 1);
        cycleIs("l20l27g3", 50, 2, 5, 50, 3, 1);
        cycleIs("3*l20g3", 63, 3, 5, 50, 4, 1);
        LabelApplicator x = Due.with("l20s3s3l20g5 l99g3 s3b99b99 l53g3 l47g3");
        x.set(7, 4);
        x.run(5, 10);
        Due.countsBe("splices and late cycles", x, 9, 1, 4, 2, 2);
        Due.countsBe("reasons", x, 24, 1, 0, 1, 1, 0, 0, 2, 0);
        LabelApplicator y = Due.with("l53g3l47g3l47g3");
        y.run(1, 300);
        Due.be("late before the speed", y.latest(2), 6);
        y.run(1, 211);
        Due.latestBe("11 too slow", y, 50, 1, 7, 200, 2, 1);
        y.run(1, 311);
        Due.latestBe("again", y, 50, 1, 7, 300, 2, 1);
        Due.countsBe("rejected", y, 9, 0, 3);
        LabelApplicator z = Due.with("3*(l47g3)");
        z.run(1, 110);
        Due.latestBe("10 too slow", z, 50, 1, 0, 100, 2, 1);
        z.set(4, 1);
        z.run(1, 89);
        Due.latestBe("10 too fast", z, 50, 1, 0, 99, 2, 1);
        z.run(1, 87);
        Due.latestBe("11 too fast", z, 50, 1, 7, 98, 2, 1);
        feedThatIsSet();
    }

    private static void feedThatIsSet() {
        LabelApplicator x = Due.with("l11g2g3l10g1");
        x.set(2, 10);
        x.run(1, 0);
        Due.latestBe("11 of 10", x, 11, 1, 2, 0, 1, 2);
        x.run(1, 0);
        Due.latestBe("15 of 10", x, 15, 1, 2, 0, 3, 2);
        x.run(1, 0);
        Due.latestBe("only 1 of 10", x, 1, 0, 1, 0, 1, 3);
    }

    private static void speedIs(LabelApplicator x, int conveyor, int due) {
        x.run(1, conveyor);
        x.clearFaults();
        Due.be("speed of the web for " + conveyor, x.count(3), due);
        Due.be("that of the latest cycle", x.latest(3), due);
    }

    private static void speeds() {
        LabelApplicator x = new LabelApplicator();
        speedIs(x, 300, 100);
        speedIs(x, 300, 200);
        speedIs(x, 250, 250);
        speedIs(x, 1000, 350);
        speedIs(x, 1000, 400);
        speedIs(x, 1000, 400);
        speedIs(x, 0, 300);
        x.set(3, 250);
        speedIs(x, 1000, 250);
        speedIs(x, 220, 220);
        x.set(3, 120);
        speedIs(x, 300, 120);
        x.set(3, 19);
        speedIs(x, 0, 19);
        x.set(3, 1000);
        x.set(4, 1000);
        speedIs(x, 1000, 1000);
        x.set(4, 1);
        speedIs(x, 0, 999);
        x.set(3, 997);
        speedIs(x, 0, 997);
        x.set(3, 1);
        speedIs(x, 0, 1);
        x.set(4, 2);
        speedIs(x, 0, 0);
        speedIs(x, 1000, 1);
    }

    private static void faultsInARow() {
        // 4 4 5 4 4 3 4 4 0 6 2 4: only the last three stop it
        LabelApplicator x = Due.with("2*(b47g3)l20l27g3 2*(b47g3) s3b44g3 2*(b47g3) l47g3 l53g3 b99b99 3*(b47g3)");
        int[] faults = {1, 2, 0, 1, 2, 0, 1, 2, 0, 1, 2, 3};
        int[] reasons = {4, 4, 5, 4, 4, 3, 4, 4, 0, 6, 2, 4};
        for (int i = 0; i < faults.length; i++) {
            Due.be("run(1, 50), " + i, x.run(1, 50), 1);
            Due.be("reason " + i, x.latest(2), reasons[i]);
            Due.be("faults in a row behind " + i, x.count(13), faults[i]);
            Due.be("stopped behind " + i, x.count(14), faults[i] == 3 ? 1 : 0);
        }
        Due.be("run(1, 50), stopped", x.run(1, 50), Due.STATE);
        Due.be("items left", x.count(0), 4);
        LabelApplicator y = Due.with("2*(b47g3)l47g3 5*(b47g3)");
        y.set(4, 1);
        Due.be("a wrong speed breaks the row", y.run(3, 50), 3);
        Due.be("reason", y.latest(2), 7);
        Due.be("faults", y.count(13), 0);
        Due.be("it stops behind three more", y.run(50, 50), 3);
        Due.be("came", y.count(6), 6);
        LabelApplicator z = new LabelApplicator();
        z.set(7, 9);
        Due.be("nine empty ones", z.run(100, 50), 9);
        LabelApplicator w = new LabelApplicator();
        w.set(7, 1);
        Due.be("one empty one", w.run(100, 50), 1);
    }

    private static void learning() {
        for (int gain = 0; gain <= 8; gain++) {
            LabelApplicator x = Due.with("l43g3 l44g3 b47g3 l49g3 l50g3 l53g4 l40g3 l41g3 l30g3 l45g4");
            x.set(6, gain);
            x.set(1, 9);
            float pitch = 50.0f;
            for (int i = 0; i < 10; i++) {
                x.run(1, 50);
                if (x.latest(2) == 0) {
                    pitch = pitch + (x.latest(0) - pitch) * (gain / 8.0f);
                }
                Due.be("pitch with gain " + gain + " behind " + i, x.pitch(), Float.floatToIntBits(pitch));
            }
        }
        LabelApplicator y = Due.with("l53g3");
        y.run(1, 50);
        Due.be("a bad one teaches nothing", y.pitch(), Float.floatToIntBits(50.0f));
        LabelApplicator z = Due.with("l42g3");
        z.run(1, 50);
        Due.be("a good one does", z.pitch(), Float.floatToIntBits(48.75f));
    }

    private static void labels() {
        LabelApplicator x = Due.with("l47g3 l20l27g3 b47g3 s3l44g3 l47g3 l47g3 l99l99 l1");
        x.set(7, 9);
        Due.be("run(9, 50)", x.run(9, 50), 9);
        Due.countsBe("labels", x, 6, 9, 2, 3, 3, 6, 1, 0, 3, 0);
        Due.countsBe("reasons", x, 24, 3, 2, 1, 1, 1, 1, 0, 0);
    }
}
