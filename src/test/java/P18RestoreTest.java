/** Promise 18, restore. */
public final class P18RestoreTest {
    public static void main(String[] args) {
        LabelApplicator x = Due.with("l43g3 l20l27g3 s3l44g3 b47g3 l44g3 l55g4 b47g3");
        int[] wrong = {-1, 2, Integer.MIN_VALUE, Integer.MAX_VALUE};
        for (int slot : wrong) {
            Due.be("restore(" + slot + ")", x.restore(slot), Due.BAD);
        }
        Due.be("restore(0)", x.restore(0), Due.STATE);
        Due.be("restore(1)", x.restore(1), Due.STATE);
        everythingComesBack(x);
        textAndSlotsStay(x);
        savedBeforeTheFirstCycle();
        numbersComeBack();
        Due.end();
    }

    private static void everythingComesBack(LabelApplicator x) {
        x.set(0, 2);
        x.set(1, 6);
        x.set(2, 151);
        x.set(3, 500);
        x.set(4, 120);
        x.set(5, 9);
        x.set(6, 5);
        x.set(7, 2);
        x.setRing(3);
        Due.be("run", x.run(9, 130), 7);
        Due.be("stopped", x.count(14), 1);
        long then = x.digest();
        Due.be("save(1)", x.save(1), 0);
        x.load();
        x.unload();
        for (int what = 0; what < 8; what++) {
            x.set(what, 8);
        }
        x.set(2, 77);
        x.setPitch(99);
        x.setRing(7);
        x.clearFaults();
        x.load();
        x.run(7, 900);
        Due.be("restore(1)", x.restore(1), 0);
        Due.be("digest as then", x.digest(), then);
        Due.countsBe("settings as then", x, 15, 2, 6, 151, 500, 120, 9, 5, 2);
        Due.be("stopped as then", x.run(1, 50), Due.STATE);
        Due.be("faults as then", x.clearFaults(), 2);
        Due.be("restore(1) again", x.restore(1), 0);
        Due.be("digest as then", x.digest(), then);
        Due.be("restore(0)", x.restore(0), Due.STATE);
    }

    private static void textAndSlotsStay(LabelApplicator x) {
        x.save(0);
        x.clear();
        Due.type(x, "b9g2");
        Due.be("restore(0)", x.restore(0), 0);
        Due.be("the text stays", x.count(23), 4);
        Due.be("and loads", x.load(), 2);
        x.save(0);
        Due.be("restore(1)", x.restore(1), 0);
        Due.be("slot 0 is as it was saved", x.restore(0), 2);
        Due.webBe("slot 0", x, new int[] {2, 9}, new int[] {1, 2});
    }

    private static void numbersComeBack() {
        LabelApplicator x = Due.with("l52g2g3 l43g3 s3l20l20g3 l20l20l20g3 b47g3 l47g3");
        x.run(3, 10);
        int[] latest = {46, 2, 3, 10, 4, 1};
        int[] counts = {3, 0, 0, 1, 3, 1, 1, 0, 0};
        int[] reasons = {1, 0, 0, 1, 0, 0, 1, 0};
        Due.latestBe("then", x, latest);
        Due.countsBe("then", x, 6, counts);
        Due.countsBe("then", x, 24, reasons);
        int pitch = x.pitch();
        x.save(0);
        Due.be("run", x.run(9, 100), 6);
        Due.latestBe("later", x, 0, 0, 1, 100, 0, 3);
        Due.countsBe("later", x, 6, 9, 1, 4, 2, 6, 1, 2, 3, 1);
        x.setPitch(77);
        Due.be("restore(0)", x.restore(0), 8);
        Due.latestBe("then again", x, latest);
        Due.countsBe("then again", x, 3, 10, 4, 3);
        Due.countsBe("then again", x, 6, counts);
        Due.countsBe("then again", x, 24, reasons);
        Due.be("pitch()", x.pitch(), pitch);
        Due.be("station(0)", x.station(0), 3);
        Due.be("station(2)", x.station(2), 6);
        Due.be("station(3)", x.station(3), Due.NONE);
        Due.be("item(0, 2)", x.item(0, 2), 0);
        Due.be("item(7, 0)", x.item(7, 0), 1);
    }

    private static void savedBeforeTheFirstCycle() {
        LabelApplicator x = Due.with("3*(l47g3)");
        long then = x.digest();
        x.save(0);
        x.run(3, 50);
        Due.be("restore(0)", x.restore(0), 6);
        Due.latestBe("no cycle", x, Due.NONE, Due.NONE, Due.NONE, Due.NONE, Due.NONE, Due.NONE);
        Due.be("station(0)", x.station(0), Due.NONE);
        Due.be("digest as then", x.digest(), then);
        Due.be("run", x.run(2, 50), 2);
        Due.be("the slot is as it was", x.restore(0), 6);
        Due.be("digest as then", x.digest(), then);
    }
}
