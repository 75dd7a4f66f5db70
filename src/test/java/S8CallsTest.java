import java.math.BigInteger;

/** The sentences of the promises 11 to 20 that name an edge, a method each. */
public final class S8CallsTest {
    public static void main(String[] args) {
        goesOn();
        faultsUntilThen();
        latestNumbers();
        noCycle();
        latestEnding();
        noSuchStation();
        emptyStation();
        pitchBits();
        foretellRanges();
        nothingChanges();
        doesNotStop();
        foretoldGood();
        foretoldLabels();
        foretoldItems();
        foretoldStop();
        neverForetold();
        fromTheFaultsNow();
        bestRanges();
        leastOfSeveral();
        valuesAtTheEnds();
        ifItWasSetNow();
        slots();
        inPlaceOfWhatWasSaved();
        allButTheTextAndTheSlots();
        staysSaved();
        nothingWasSaved();
        countNumbers();
        countsAtBothEnds();
        stationsAndProducts();
        stoppedOrNot();
        bytesOfTheText();
        reasonsOfThoseThatCame();
        withAnyReason();
        firstHash();
        overflow();
        Due.end();
    }

    private static void goesOn() {
        Due.sentence("Clears the faults in a row; an applicator that has stopped goes on.");
        LabelApplicator x = Due.with("l47g3");
        x.run(4, 0);
        Due.countsBe("stopped", x, 13, 3, 1);
        x.clearFaults();
        Due.countsBe("goes on", x, 13, 0, 0);
        Due.countsBe("the other numbers stay", x, 4, 4, 4, 4, 0, 0, 1, 0);
        Due.latestBe("the latest cycle stays", x, 0, 0, 1, 0, 0, 3);
        Due.be("run(2, 0)", x.run(2, 0), 2);
        Due.countsBe("two", x, 13, 2, 0);
    }

    private static void faultsUntilThen() {
        Due.sentence("Returns the number of faults in a row until then.");
        LabelApplicator x = new LabelApplicator();
        Due.be("clearFaults() of none", x.clearFaults(), 0);
        x.set(7, 9);
        x.run(100, 0);
        Due.be("clearFaults() of nine", x.clearFaults(), 9);
        Due.be("clearFaults() again", x.clearFaults(), 0);
        x.run(1, 0);
        Due.be("clearFaults() of one", x.clearFaults(), 1);
    }

    private static void latestNumbers() {
        Due.sentence("Returns a number of the latest cycle.");
        LabelApplicator x = Due.with("l47g3");
        Due.range("latest, no cycle", 0, 5, x::latest);
        x.run(1, 50);
        Due.range("latest", 0, 5, x::latest);
        Due.latestBe("good", x, 50, 1, 0, 50, 2, 1);
        x.run(1, 60);
        Due.latestBe("empty", x, 0, 0, 1, 60, 0, 3);
    }

    private static void noCycle() {
        Due.sentence("NONE if there was no cycle.");
        LabelApplicator x = Due.with("l47g3");
        x.save(0);
        x.foretell(5, 50, 0);
        x.best(1, 5, 50);
        Due.latestBe("no cycle", x, Due.NONE, Due.NONE, Due.NONE, Due.NONE, Due.NONE, Due.NONE);
        x.run(1, 50);
        Due.be("latest(2)", x.latest(2), 0);
        x.restore(0);
        Due.latestBe("no cycle again", x, Due.NONE, Due.NONE, Due.NONE, Due.NONE, Due.NONE, Due.NONE);
    }

    private static void latestEnding() {
        Due.sentence("5: 1 if it was marked, 2 if it was lost, 3 if it was empty");
        LabelApplicator x = Due.with("l47g3 l99l99 l9");
        int[] endings = {1, 2, 3, 3};
        for (int ending : endings) {
            x.clearFaults();
            x.run(1, 50);
            Due.be("latest(5)", x.latest(5), ending);
        }
    }

    private static void noSuchStation() {
        Due.sentence("BAD if there is no such station");
        LabelApplicator x = new LabelApplicator();
        for (int stations = 1; stations <= 10; stations++) {
            x.setRing(stations);
            Due.range("station, of " + stations, 0, stations - 1, x::station);
        }
        x.run(3, 0);
        x.setRing(1);
        Due.be("station(1) where a product was", x.station(1), Due.BAD);
    }

    private static void emptyStation() {
        Due.sentence("NONE if it is empty.");
        LabelApplicator x = Due.with("l47g3");
        Due.be("station(0)", x.station(0), Due.NONE);
        x.run(1, 50);
        Due.be("station(0) has a good one", x.station(0), 0);
        Due.be("station(1)", x.station(1), Due.NONE);
        x.setRing(4);
        Due.be("station(0)", x.station(0), Due.NONE);
    }

    private static void pitchBits() {
        Due.sentence("Returns its bits, as Float.floatToIntBits() tells them.");
        int[] tenths = {10, 19, 20, 21, 39, 40, 79, 80, 159, 160, 319, 320, 639, 640, 1279, 1280, 2000};
        for (int pitch : tenths) {
            LabelApplicator x = new LabelApplicator();
            x.setPitch(pitch);
            Due.be("pitch() of " + pitch, x.pitch(), Float.floatToIntBits(pitch / 10.0f));
        }
        LabelApplicator greatest = Due.with("l99b99b22g30");
        greatest.set(2, 400);
        greatest.set(6, 8);
        greatest.setPitch(2000);
        greatest.set(1, 50);
        Due.cycle(greatest, 50, 250, 1, 0, 50, 4, 1);
        Due.be("pitch() of 250", greatest.pitch(), Float.floatToIntBits(250.0f));
        LabelApplicator least = Due.with("2*(l1g1)");
        least.set(0, 1);
        least.setPitch(10);
        least.set(6, 1);
        Due.cycle(least, 50, 2, 1, 0, 50, 2, 1);
        Due.be("pitch() of 1.125", least.pitch(), Float.floatToIntBits(1.125f));
    }

    private static void foretellRanges() {
        LabelApplicator x = Due.with("l47g3");
        for (int what = 0; what < 4; what++) {
            int number = what;
            Due.sentence("`products`: how many, 1 to 100");
            Due.range("foretell(.., 50, " + what + ")", 1, 100, products -> x.foretell(products, 50, number));
            Due.sentence("`speed`: the speed of the conveyor, 0 to 1000");
            Due.range("foretell(1, .., " + what + ")", 0, 1000, speed -> x.foretell(1, speed, number));
        }
        Due.sentence("`what`: 0: how many would be good; 1: how many labels would be rejected;");
        Due.range("foretell(1, 50, ..)", 0, 3, what -> x.foretell(1, 50, what));
    }

    private static void nothingChanges() {
        Due.sentence("what would be; nothing changes");
        LabelApplicator x = Due.with("l46g3 l53g4 3*(b47g3)");
        x.run(1, 130);
        x.save(1);
        long before = x.digest();
        for (int what = 0; what < 4; what++) {
            x.foretell(100, 1000, what);
            Due.be("digest() behind foretell", x.digest(), before);
        }
        int[] settings = {0, 1, 5};
        for (int what : settings) {
            x.best(what, 100, 1000);
            Due.be("digest() behind best", x.digest(), before);
        }
        Due.be("run(9, 100)", x.run(9, 100), 3);
        x.restore(1);
        Due.be("digest() of what was saved", x.digest(), before);
    }

    private static void doesNotStop() {
        Due.sentence("with an applicator that does not stop");
        LabelApplicator x = Due.with("5*(b47g3) 2*(l47g3)");
        Due.be("good behind five faults", x.foretell(7, 50, 0), 2);
        Due.be("left", x.foretell(7, 50, 2), 0);
        Due.be("run(7, 50)", x.run(7, 50), 3);
        Due.be("good, when stopped", x.foretell(4, 50, 0), 2);
        Due.be("left, when stopped", x.foretell(3, 50, 2), 2);
        Due.be("still stopped", x.run(1, 50), Due.STATE);
    }

    private static void foretoldGood() {
        Due.sentence("0: how many would be good");
        LabelApplicator x = Due.with("40*(l47g3)");
        Due.be("of 1", x.foretell(1, 50, 0), 1);
        Due.be("of 40", x.foretell(40, 50, 0), 40);
        Due.be("of 41", x.foretell(41, 50, 0), 40);
        Due.be("of 100", x.foretell(100, 50, 0), 40);
        x.run(10, 50);
        Due.be("of those to come", x.foretell(100, 50, 0), 30);
        Due.be("without a web", new LabelApplicator().foretell(100, 50, 0), 0);
    }

    private static void foretoldLabels() {
        Due.sentence("1: how many labels would be rejected");
        LabelApplicator x = Due.with("3*(l20l27g3) l47g3 b47g3 l9");
        x.run(1, 50);
        Due.be("of 1", x.foretell(1, 50, 1), 2);
        Due.be("of 2", x.foretell(2, 50, 1), 4);
        Due.be("of 3", x.foretell(3, 50, 1), 4);
        Due.be("of 4", x.foretell(4, 50, 1), 4);
        Due.be("of 5", x.foretell(5, 50, 1), 5);
        Due.be("of 100", x.foretell(100, 50, 1), 5);
        Due.be("of 1 at another speed", x.foretell(3, 1000, 1), 5);
        Due.be("of 80 labels", Due.with("80*l1").foretell(1, 50, 1), 80);
    }

    private static void foretoldItems() {
        Due.sentence("2: how many items would be left");
        LabelApplicator x = Due.with("40*(l47g3)");
        Due.be("behind 1", x.foretell(1, 50, 2), 78);
        Due.be("behind 39", x.foretell(39, 50, 2), 2);
        Due.be("behind 40", x.foretell(40, 50, 2), 0);
        Due.be("behind 100", x.foretell(100, 50, 2), 0);
        x.run(1, 50);
        Due.be("behind 2", x.foretell(1, 50, 2), 76);
    }

    private static void foretoldStop() {
        Due.sentence("3: after which of these products, from 1, the faults in a row would first be at least the"
                + " patience");
        LabelApplicator x = Due.with("l47g3");
        for (int patience = 1; patience <= 9; patience++) {
            x.set(7, patience);
            Due.be("with the patience " + patience, x.foretell(100, 50, 3), patience + 1);
        }
        LabelApplicator twice = Due.with("b47g3 l47g3");
        twice.set(7, 1);
        Due.be("the first of several", twice.foretell(9, 50, 3), 1);
        LabelApplicator last = Due.with("40*(l47g3)");
        Due.be("the last of these", last.foretell(43, 50, 3), 43);
    }

    private static void neverForetold() {
        Due.sentence("(NONE if never");
        LabelApplicator x = Due.with("40*(l47g3)");
        Due.be("40 good ones", x.foretell(40, 50, 3), Due.NONE);
        Due.be("and two faults", x.foretell(42, 50, 3), Due.NONE);
        Due.be("and three faults", x.foretell(43, 50, 3), 43);
        Due.be("two of three", new LabelApplicator().foretell(2, 50, 3), Due.NONE);
        Due.be("splices are no faults", Due.with("9*(s3l44g3)").foretell(9, 50, 3), Due.NONE);
    }

    private static void fromTheFaultsNow() {
        Due.sentence("counted from the faults in a row there are now)");
        LabelApplicator x = new LabelApplicator();
        Due.be("from none", x.foretell(9, 50, 3), 3);
        x.run(1, 50);
        Due.be("from one", x.foretell(9, 50, 3), 2);
        x.run(1, 50);
        Due.be("from two", x.foretell(9, 50, 3), 1);
        x.run(1, 50);
        Due.be("from three, when stopped", x.foretell(9, 50, 3), 1);
        x.clearFaults();
        Due.be("cleared", x.foretell(9, 50, 3), 3);
        x.run(2, 50);
        Due.load(x, "l47g3");
        Due.be("a good one ends the row", x.foretell(9, 50, 3), 4);
        x.set(7, 1);
        Due.be("with less patience than faults", x.foretell(9, 50, 3), 2);
    }

    private static void bestRanges() {
        Due.sentence("`what`: the setting: 0 the least gap, 1 the window, or 5 the tolerance of speed");
        LabelApplicator x = Due.with("l47g3");
        int[] others = {Integer.MIN_VALUE, -1, 2, 3, 4, 6, 7, 8, Integer.MAX_VALUE};
        for (int what : others) {
            Due.be("best(" + what + ", 1, 50)", x.best(what, 1, 50), Due.BAD);
        }
        int[] settings = {0, 1, 5};
        for (int what : settings) {
            Due.sentence("`products`: how many products, 1 to 100");
            Due.range("best(" + what + ", .., 50)", 1, 100, products -> x.best(what, products, 50));
            Due.sentence("`speed`: the speed of the conveyor, 0 to 1000");
            Due.range("best(" + what + ", 1, ..)", 0, 1000, speed -> x.best(what, 1, speed));
        }
    }

    private static void leastOfSeveral() {
        Due.sentence("of several the least value");
        LabelApplicator none = new LabelApplicator();
        Due.be("best(0) without a web", none.best(0, 1, 0), 1);
        Due.be("best(1) without a web", none.best(1, 1, 0), 0);
        Due.be("best(5) without a web", none.best(5, 1, 0), 0);
        LabelApplicator x = Due.with("3*(l47g3)");
        Due.be("best(0)", x.best(0, 3, 50), 1);
        Due.be("best(1)", x.best(1, 3, 50), 0);
        Due.be("best(5)", x.best(5, 3, 50), 0);
        Due.be("best(5), with 7 needed", x.best(5, 1, 107), 7);
    }

    private static void valuesAtTheEnds() {
        Due.sentence("Finds the value of a setting with which most of some products would be good");
        LabelApplicator gap = Due.with("b18g29l1g30");
        gap.set(1, 50);
        gap.setPitch(600);
        Due.be("the greatest least gap", gap.best(0, 1, 50), 30);
        LabelApplicator window = Due.with("l97g3");
        Due.be("the greatest window", window.best(1, 1, 50), 50);
        LabelApplicator tooLong = Due.with("l98g3");
        Due.be("no window is enough", tooLong.best(1, 1, 50), 0);
        LabelApplicator speed = Due.with("l47g3");
        Due.be("the greatest tolerance", speed.best(5, 1, 200), 100);
        Due.be("no tolerance is enough", speed.best(5, 1, 201), 0);
        LabelApplicator one = Due.with("l48g2l1g3");
        Due.be("the least gap 1", one.best(0, 1, 50), 1);
        one.set(0, 30);
        Due.be("whatever is set now", one.best(0, 1, 50), 1);
    }

    private static void ifItWasSetNow() {
        Due.sentence("as foretell() with 0 tells it, if it was set now");
        LabelApplicator x = Due.with("b47g3 b47g3 b47g3 l40g3 l56g3");
        x.run(3, 50);
        Due.be("stopped", x.count(14), 1);
        Due.be("a window of 7", x.best(1, 1, 50), 7);
        Due.be("a window of 11 for both", x.best(1, 2, 50), 11);
        Due.be("the window stays", x.count(16), 5);
        x.set(1, 10);
        Due.be("one of both", x.foretell(2, 50, 0), 1);
        x.set(1, 11);
        Due.be("both", x.foretell(2, 50, 0), 2);
        Due.be("still stopped", x.count(14), 1);
    }

    private static void slots() {
        Due.sentence("`slot`: 0 or 1");
        Due.range("save", 0, 1, slot -> new LabelApplicator().save(slot));
        LabelApplicator x = Due.with("80*l1");
        Due.be("save(0)", x.save(0), 80);
        x.unload();
        Due.be("save(1)", x.save(1), 0);
        Due.range("restore", 0, 1, x::restore);
        Due.be("restore(0)", x.restore(0), 80);
        Due.be("restore(1)", x.restore(1), 0);
    }

    private static void inPlaceOfWhatWasSaved() {
        Due.sentence("in place of what was saved there");
        LabelApplicator x = Due.with("80*l9");
        x.setRing(10);
        x.save(0);
        x.unload();
        x.setRing(2);
        Due.load(x, "g7");
        Due.be("save(0)", x.save(0), 1);
        x.unload();
        Due.be("restore(0)", x.restore(0), 1);
        Due.webBe("restored", x, new int[] {1, 7});
        Due.be("item(1, 0)", x.item(1, 0), Due.NONE);
        Due.be("station(2)", x.station(2), Due.BAD);
        Due.be("restore(1)", x.restore(1), Due.STATE);
    }

    private static void allButTheTextAndTheSlots() {
        Due.sentence("Saves everything but the text and the slots in a slot");
        LabelApplicator x = Due.with("l46g3 s3l44g3 b47g3 l53g3 l9");
        x.set(7, 2);
        x.run(4, 130);
        Due.be("stopped", x.count(14), 1);
        x.save(1);
        x.save(0);
        long then = x.digest();
        x.unload();
        x.clearFaults();
        x.setRing(9);
        x.setPitch(1234);
        for (int what = 0; what < 8; what++) {
            x.set(what, 8);
        }
        x.set(2, 99);
        x.run(2, 500);
        x.save(0);
        Due.be("restore(1)", x.restore(1), 1);
        Due.be("digest() as then", x.digest(), then);
        Due.be("stopped as then", x.run(1, 0), Due.STATE);
        Due.be("slot 0 as it was saved later", x.restore(0), 0);
        Due.be("its pitch", x.pitch(), Float.floatToIntBits(123.4f));
        x.clear();
        Due.type(x, "b5");
        Due.be("restore(1)", x.restore(1), 1);
        Due.be("the text stays", x.count(23), 2);
        Due.be("and is read", x.load(), 2);
    }

    private static void staysSaved() {
        Due.sentence("Restores what was saved in a slot, where it stays saved.");
        LabelApplicator x = Due.with("2*(l46g3)");
        x.save(0);
        long then = x.digest();
        for (int i = 0; i < 3; i++) {
            x.run(3, 50);
            x.setRing(1);
            x.set(6, 0);
            Due.be("restore(0)", x.restore(0), 4);
            Due.be("digest() as then", x.digest(), then);
        }
    }

    private static void nothingWasSaved() {
        Due.sentence("STATE if nothing was saved there.");
        LabelApplicator x = Due.with("l47g3");
        Due.refused(x, "restore(0)", Due.STATE, () -> x.restore(0));
        Due.refused(x, "restore(1)", Due.STATE, () -> x.restore(1));
        x.save(1);
        Due.refused(x, "restore(0)", Due.STATE, () -> x.restore(0));
        Due.be("restore(1)", x.restore(1), 2);
        x.save(0);
        Due.be("restore(0)", x.restore(0), 2);
        LabelApplicator empty = new LabelApplicator();
        empty.save(0);
        Due.be("what was saved may be without a web", empty.restore(0), 0);
    }

    private static void countNumbers() {
        Due.sentence("Returns a number.");
        LabelApplicator x = new LabelApplicator();
        Due.range("count", 0, 31, x::count);
    }

    private static void countsAtBothEnds() {
        Due.sentence("0: items of the web; 1: labels on the web; 2: the sum of the lengths of all items;");
        LabelApplicator x = new LabelApplicator();
        Due.countsBe("without a web", x, 0, 0, 0, 0);
        Due.load(x, "80*l99");
        Due.countsBe("80 labels", x, 0, 80, 80, 7920);
        x.unload();
        Due.load(x, "40*b99 20*s30 20*g30");
        Due.countsBe("no label", x, 0, 80, 0, 40 * 99 + 40 * 30);
        x.run(1, 50);
        Due.countsBe("two were taken", x, 0, 78, 0, 38 * 99 + 40 * 30);
    }

    private static void stationsAndProducts() {
        Due.sentence("4: stations; 5: products in the ring; 6: products that came; 7: delivered ones; 8: diverted ones;");
        LabelApplicator x = Due.with("40*(l47g3)");
        Due.countsBe("none", x, 4, 4, 0, 0, 0, 0);
        x.setRing(10);
        x.run(9, 50);
        Due.countsBe("nine of ten", x, 4, 10, 9, 9, 0, 0);
        x.run(1, 50);
        Due.countsBe("ten of ten", x, 4, 10, 10, 10, 0, 0);
        x.run(1, 50);
        Due.countsBe("eleven", x, 4, 10, 10, 11, 1, 0);
        x.run(1, 1000);
        x.setRing(1);
        Due.countsBe("let out", x, 4, 1, 0, 12, 11, 1);
    }

    private static void stoppedOrNot() {
        Due.sentence("13: the faults in a row; 14: 1 if the applicator has stopped, otherwise 0;");
        LabelApplicator x = new LabelApplicator();
        int[] faults = {1, 2, 3};
        Due.countsBe("none", x, 13, 0, 0);
        for (int due : faults) {
            x.run(1, 0);
            Due.countsBe("behind " + due, x, 13, due, due == 3 ? 1 : 0);
        }
        x.run(1, 0);
        Due.countsBe("refused", x, 13, 3, 1);
        x.clearFaults();
        Due.countsBe("cleared", x, 13, 0, 0);
    }

    private static void bytesOfTheText() {
        Due.sentence("23: bytes of the text;");
        LabelApplicator x = new LabelApplicator();
        Due.be("none", x.count(23), 0);
        Due.type(x, " ".repeat(80));
        Due.be("all", x.count(23), 80);
        x.type(' ');
        Due.be("refused", x.count(23), 80);
        x.clear();
        Due.be("cleared", x.count(23), 0);
    }

    private static void reasonsOfThoseThatCame() {
        Due.sentence("24 to 31: products that came with the reasons 0 to 7");
        LabelApplicator x = Due.with("l47g3 l99l99 s3l44g3 b47g3 l20l27g3 l53g3");
        x.set(7, 9);
        x.run(7, 50);
        Due.countsBe("one each", x, 24, 1, 1, 1, 1, 1, 1, 1, 0);
        x.load();
        x.run(1, 1000);
        Due.countsBe("one each", x, 24, 1, 1, 1, 1, 1, 1, 1, 1);
    }

    private static void withAnyReason() {
        Due.sentence("11: cycles that took a splice, with any reason; 12: late cycles, with any reason;");
        LabelApplicator x = new LabelApplicator();
        x.set(7, 9);
        cycleCounts(x, "s9", 1, 1, 0);
        cycleCounts(x, "s9l99l99", 2, 2, 0);
        cycleCounts(x, "s2s2l43g3", 3, 3, 0);
        cycleCounts(x, "s9l50g3", 3, 4, 1);
        cycleCounts(x, "b60g3", 4, 4, 2);
        cycleCounts(x, "l30l30g3", 5, 4, 3);
        cycleCounts(x, "l60g3", 6, 4, 4);
        cycleCounts(x, "l47g3", 0, 4, 4);
        cycleCounts(x, "l9", 1, 4, 4);
    }

    private static void cycleCounts(LabelApplicator x, String web, int reason, int spliced, int late) {
        x.unload();
        Due.load(x, web);
        x.run(1, 50);
        Due.be("reason of " + web, x.latest(2), reason);
        Due.countsBe("behind " + web, x, 11, spliced, late);
    }

    private static void firstHash() {
        Due.sentence("It is 743 at first");
        BigInteger hash = BigInteger.valueOf(743);
        int[] numbers = {0, 0, 0, 0, 4, 0, 0, 0, 0, 0, 0, 0, 0, 0, 0, 3, 5, 150, 400, 100, 10, 2, 3, 0,
            0, 0, 0, 0, 0, 0, 0, 0, 1112014848, -1, -1, -1, -1, -1, -1, -1, -1, -1, -1, 0, 0, 0, 3};
        for (int number : numbers) {
            hash = hash.multiply(BigInteger.valueOf(31)).add(BigInteger.valueOf(number));
        }
        Due.be("digest() of a new object", new LabelApplicator().digest(), hash.longValue());
    }

    private static void overflow() {
        Due.sentence("(long arithmetic with overflow)");
        LabelApplicator x = new LabelApplicator();
        Due.type(x, "80*l99" + " ".repeat(74));
        Due.be("load()", x.load(), 80);
        x.setRing(10);
        BigInteger hash = BigInteger.valueOf(743);
        int[] counts = {80, 80, 7920, 0, 10, 0, 0, 0, 0, 0, 0, 0, 0, 0, 0, 3, 5, 150, 400, 100, 10, 2, 3, 80,
            0, 0, 0, 0, 0, 0, 0, 0};
        for (int number : counts) {
            hash = next(hash, number);
        }
        for (int i = 0; i < 80; i++) {
            hash = next(next(next(hash, 0), 99), 99 * i);
        }
        hash = next(hash, 1112014848);
        for (int i = 0; i < 16; i++) {
            hash = next(hash, -1);
        }
        // 20 products take two labels each, are lost, and the third stops the applicator
        hash = next(next(next(next(hash, 0), 40), 40), 3);
        byte[] bytes = ("80*l99" + " ".repeat(74)).getBytes();
        for (byte letter : bytes) {
            hash = next(hash, letter);
        }
        Due.be("is beyond a long", hash.bitLength() > 1000 ? 1 : 0, 1);
        Due.be("digest()", x.digest(), hash.longValue());
    }

    private static BigInteger next(BigInteger hash, int number) {
        return hash.multiply(BigInteger.valueOf(31)).add(BigInteger.valueOf(number));
    }
}
