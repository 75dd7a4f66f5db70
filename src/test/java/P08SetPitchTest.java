/** Promise 8, setPitch. */
public final class P08SetPitchTest {
    public static void main(String[] args) {
        LabelApplicator x = new LabelApplicator();
        int before = Float.floatToIntBits(50.0f);
        int[] wrong = {9, 2001, 0, -10, Integer.MIN_VALUE, Integer.MAX_VALUE};
        for (int tenths : wrong) {
            Due.be("setPitch(" + tenths + ")", x.setPitch(tenths), Due.BAD);
            Due.be("pitch()", x.pitch(), before);
        }
        int[] right = {10, 2000, 11, 15, 19, 20, 21, 39, 40, 41, 333, 499, 500, 501, 639, 640, 1279, 1280, 1281, 1999};
        for (int tenths : right) {
            Due.be("setPitch(" + tenths + ")", x.setPitch(tenths), before);
            before = Float.floatToIntBits(tenths / 10.0f);
            Due.be("pitch()", x.pitch(), before);
        }
        allTenths();
        usedAtOnce();
        Due.end();
    }

    private static void allTenths() {
        for (int from = 10; from <= 2000; from += 500) {
            LabelApplicator x = new LabelApplicator();
            for (int tenths = from; tenths < from + 500 && tenths <= 2000; tenths++) {
                x.setPitch(tenths);
                if (tenths % 2 == 0) {
                    Due.be("pitch() for " + tenths, x.pitch(), Float.floatToIntBits(tenths / 10.0f));
                }
            }
        }
    }

    private static void usedAtOnce() {
        LabelApplicator x = Due.with("2*(l27g3)");
        x.setPitch(350);
        x.run(1, 0);
        Due.latestBe("30 of 35", x, 30, 1, 0, 0, 2, 1);
        x.setPitch(351);
        x.run(1, 0);
        Due.latestBe("30 of 35.1", x, 30, 1, 1, 0, 2, 3);
    }
}
