/** The sentences of the document on reasons, learning and faults in a row that name an edge, a method each. */
public final class S5ReasonsTest {
    public static void main(String[] args) {
        emptyComesFirst();
        lostComesNext();
        spliceComesNext();
        noLabelComesNext();
        manyLabelsComeNext();
        lateComesBeforeSpeed();
        differsByMore();
        good();
        learns();
        learnsInFloats();
        gains();
        learnsOnlyFromGoodOnes();
        rejected();
        reasonsThatAreFaults();
        reasonsThatAreNone();
        sinceClearing();
        atLeastThePatience();
        stopsBehindIt();
        Due.end();
    }

    private static void reasonIs(String web, int speed, int reason) {
        LabelApplicator x = Due.with(web);
        Due.be("run(1, " + speed + ") with " + web, x.run(1, speed), 1);
        Due.be("reason with " + web + " at " + speed, x.latest(2), reason);
        Due.be("at station 0", x.station(0), reason);
        for (int other = 0; other < 8; other++) {
            Due.be("products with the reason " + other, x.count(24 + other), other == reason ? 1 : 0);
        }
    }

    private static void emptyComesFirst() {
        Due.sentence("the first of these that applies: 1 empty;");
        reasonIs("", 50, 1);
        reasonIs("", 1000, 1);
        reasonIs("s9", 50, 1);
        reasonIs("s9l9", 1000, 1);
        reasonIs("b9", 50, 1);
        reasonIs("l9l9", 50, 1);
        reasonIs("l9", 50, 1);
    }

    private static void lostComesNext() {
        Due.sentence("2 lost;");
        reasonIs("b99s30b30", 50, 2);
        reasonIs("b99b99", 1000, 2);
        reasonIs("l99l99", 50, 2);
        reasonIs("l99b99", 50, 2);
        reasonIs("s30l99l99", 1000, 2);
    }

    private static void spliceComesNext() {
        Due.sentence("3 a splice is among the items;");
        reasonIs("l44s3g3", 50, 3);
        reasonIs("s3l44g3", 50, 3);
        reasonIs("b44s3g3", 50, 3);
        reasonIs("l20l24s3g3", 50, 3);
        reasonIs("l60s3g3", 50, 3);
        reasonIs("s3s3l60l9g3", 1000, 3);
        reasonIs("l47g3s3", 50, 0);
    }

    private static void noLabelComesNext() {
        Due.sentence("4 there is no label among them;");
        reasonIs("b47g3", 50, 4);
        reasonIs("b99g3", 50, 4);
        reasonIs("b47g3", 1000, 4);
        reasonIs("b99g3l9", 1000, 4);
        reasonIs("g30g30", 50, 4);
    }

    private static void manyLabelsComeNext() {
        Due.sentence("5 there are two labels or more;");
        reasonIs("l20l27g3", 50, 5);
        reasonIs("l20l20l27g3", 50, 5);
        reasonIs("l60l27g3", 1000, 5);
        reasonIs("l20l27g3", 1000, 5);
        reasonIs("l47g3l47g3", 50, 0);
    }

    private static void lateComesBeforeSpeed() {
        Due.sentence("6 the cycle is late;");
        reasonIs("l53g3", 50, 6);
        reasonIs("l52g3", 50, 0);
        reasonIs("l53g3", 1000, 6);
        reasonIs("l52g3", 1000, 7);
    }

    private static void differsByMore() {
        Due.sentence("7 the speed of the web differs from v by more than the tolerance of speed.");
        reasonIs("l47g3", 109, 0);
        reasonIs("l47g3", 110, 0);
        reasonIs("l47g3", 111, 7);
        reasonIs("l47g3", 1000, 7);
        int[] differences = {0, 1, 5, 99, 100};
        for (int tolerance : differences) {
            speedDiffers(tolerance, tolerance, 0);
            speedDiffers(tolerance, tolerance + 1, 7);
            speedDiffers(tolerance, -tolerance, 0);
            speedDiffers(tolerance, -tolerance - 1, 7);
        }
    }

    /** The web is at 300, and changes by 1 at most. */
    private static void speedDiffers(int tolerance, int difference, int reason) {
        LabelApplicator x = Due.with("2*(l47g3)");
        x.set(4, 1000);
        x.run(1, 300);
        x.set(4, 1);
        x.set(5, tolerance);
        int speed = difference < 0 ? 299 : difference > 0 ? 301 : 300;
        Due.cycle(x, speed + difference, 50, 1, reason, speed, 2, 1);
    }

    private static void good() {
        Due.sentence("If none applies, the product is good (reason 0): its label is applied");
        LabelApplicator x = Due.with("b3l44g3l47g3");
        Due.cycle(x, 50, 50, 1, 0, 50, 3, 1);
        Due.countsBe("one", x, 9, 1, 0);
        Due.cycle(x, 50, 50, 1, 0, 50, 2, 1);
        Due.countsBe("two", x, 9, 2, 0);
    }

    private static void learns() {
        Due.sentence("computed as pitch + (travel - pitch) * (gain / 8.0f) in floats");
        LabelApplicator x = Due.with("l44g3 l48g5 l49g3 l43g4 l50g3 l45g3");
        int[] travels = {47, 53, 52, 47, 53, 48};
        float pitch = 49.9f;
        x.setPitch(499);
        x.set(6, 3);
        for (int travel : travels) {
            Due.cycle(x, 50, travel, 1, 0, 50, 2, 1);
            float share = 3 / 8.0f;
            float difference = (float) travel - pitch;
            float change = difference * share;
            pitch = pitch + change;
            Due.be("pitch() behind " + travel, x.pitch(), Float.floatToIntBits(pitch));
        }
    }

    /** Where doubles, made a float at last, would tell another pitch. */
    private static void learnsInFloats() {
        Due.sentence("(All arithmetic with the pitch is that of Java's float; an int is converted to float first.)");
        int[] gains = {1, 2, 2};
        int[] travels = {8, 10, 34};
        float[] pitches = {1.9625001f, 3.3249998f, 9.325001f};
        for (int i = 0; i < gains.length; i++) {
            LabelApplicator x = Due.with("l" + (travels[i] - 3) + "g3");
            x.setPitch(11);
            x.set(1, 50);
            x.set(6, gains[i]);
            Due.cycle(x, 50, travels[i], 1, 0, 50, 2, 1);
            Due.be("pitch() behind " + travels[i], x.pitch(), Float.floatToIntBits(pitches[i]));
        }
    }

    private static void gains() {
        Due.sentence("the pitch becomes pitch + (travel - pitch) * gain / 8");
        float[] pitches = {50.0f, 50.5f, 51.0f, 51.5f, 52.0f, 52.5f, 53.0f, 53.5f, 54.0f};
        for (int gain = 0; gain <= 8; gain++) {
            LabelApplicator x = Due.with("l51g3");
            x.set(6, gain);
            Due.cycle(x, 50, 54, 1, 0, 50, 2, 1);
            Due.be("pitch() with the gain " + gain, x.pitch(), Float.floatToIntBits(pitches[gain]));
        }
    }

    private static void learnsOnlyFromGoodOnes() {
        Due.sentence("If none applies, the product is good (reason 0)");
        String[] webs = {"", "l49", "l99l99", "l45s3g3", "b48g3", "l20l28g3", "l53g3"};
        for (String web : webs) {
            LabelApplicator x = Due.with(web);
            x.run(1, 50);
            Due.be("pitch() behind " + web, x.pitch(), Float.floatToIntBits(50.0f));
            Due.be("applied of " + web, x.count(9), 0);
        }
        LabelApplicator x = Due.with("l48g3");
        x.run(1, 111);
        Due.be("pitch() behind a wrong speed", x.pitch(), Float.floatToIntBits(50.0f));
    }

    private static void rejected() {
        Due.sentence("The labels of a cycle whose product is bad are rejected.");
        String[] webs = {"", "l9l9l9", "l99l99", "l45s3g3", "l20l25s3g3", "b47g3", "l20l27g3", "3*l20g3", "l53g3"};
        int[] labels = {0, 3, 2, 1, 2, 0, 2, 3, 1};
        for (int i = 0; i < webs.length; i++) {
            LabelApplicator x = Due.with(webs[i]);
            x.run(1, 50);
            Due.countsBe("labels of " + webs[i], x, 9, 0, labels[i]);
        }
        LabelApplicator x = Due.with("l47g3l9");
        x.run(1, 111);
        Due.countsBe("labels with a wrong speed", x, 9, 0, 1);
        x.unload();
        Due.countsBe("labels taken out are not rejected", x, 9, 0, 1);
    }

    private static void faultsBehind(String web, int due) {
        LabelApplicator x = new LabelApplicator();
        x.run(2, 50);
        Due.be("faults", x.count(13), 2);
        Due.load(x, web);
        x.run(1, 50);
        Due.be("faults in a row behind " + web, x.count(13), due);
        Due.be("stopped behind " + web, x.count(14), due == 3 ? 1 : 0);
    }

    private static void reasonsThatAreFaults() {
        Due.sentence("The faults in a row are the number of cycles with the reasons 1, 2, 4 and 6");
        faultsBehind("", 3);
        faultsBehind("l99l99", 3);
        faultsBehind("b47g3", 3);
        faultsBehind("l53g3", 3);
    }

    private static void reasonsThatAreNone() {
        Due.sentence("since the latest cycle with another reason");
        faultsBehind("l47g3", 0);
        faultsBehind("s3l44g3", 0);
        faultsBehind("l20l27g3", 0);
        LabelApplicator x = new LabelApplicator();
        x.set(4, 1);
        x.run(2, 0);
        Due.load(x, "l47g3");
        Due.cycle(x, 50, 50, 1, 7, 1, 2, 1);
        Due.be("faults in a row behind a wrong speed", x.count(13), 0);
        Due.be("run(9, 50)", x.run(9, 50), 3);
    }

    private static void sinceClearing() {
        Due.sentence("or since clearing");
        LabelApplicator x = new LabelApplicator();
        x.run(2, 0);
        x.clearFaults();
        Due.be("run(9, 0)", x.run(9, 0), 3);
        Due.be("faults", x.count(13), 3);
        LabelApplicator y = new LabelApplicator();
        y.run(2, 0);
        y.setRing(4);
        y.setPitch(77);
        y.clear();
        y.load();
        y.unload();
        y.save(0);
        Due.be("other calls do not clear them", y.run(9, 0), 1);
    }

    private static void atLeastThePatience() {
        Due.sentence("If they are at least the patience at the end of a cycle, the applicator stops behind it.");
        for (int patience = 1; patience <= 9; patience++) {
            LabelApplicator x = new LabelApplicator();
            x.set(7, patience);
            if (patience > 1) {
                Due.be("one less", x.run(patience - 1, 0), patience - 1);
                Due.be("is not stopped", x.count(14), 0);
            }
            Due.be("run(9, 0)", x.run(9, 0), 1);
            Due.be("is stopped", x.count(14), 1);
        }
        LabelApplicator more = new LabelApplicator();
        more.run(2, 0);
        more.set(7, 1);
        Due.be("three of one", more.run(9, 0), 1);
        Due.be("is stopped", more.count(14), 1);
        LabelApplicator good = new LabelApplicator();
        good.run(2, 0);
        good.set(7, 1);
        Due.load(good, "l47g3");
        Due.be("a good one ends the row", good.run(1, 0), 1);
        Due.be("is not stopped", good.count(14), 0);
    }

    private static void stopsBehindIt() {
        Due.sentence("the applicator stops behind it");
        LabelApplicator x = Due.with("3*(b47g3) 2*(l47g3)");
        Due.be("run(5, 50)", x.run(5, 50), 3);
        Due.be("came", x.count(6), 3);
        Due.be("items", x.count(0), 4);
        Due.be("station(0)", x.station(0), 4);
        Due.be("run(1, 50)", x.run(1, 50), Due.STATE);
        x.clearFaults();
        Due.be("run(2, 50)", x.run(2, 50), 2);
        Due.be("applied", x.count(9), 2);
    }
}
