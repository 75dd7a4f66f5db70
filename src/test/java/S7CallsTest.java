/** The sentences of the promises 1 to 10 that name an edge, a method each. */
public final class S7CallsTest {
    public static void main(String[] args) {
        newObject();
        letters();
        lengthThen();
        fullText();
        clearedText();
        clearAtBothEnds();
        allOfThemOrNone();
        textStays();
        faultOfTheText();
        webWouldHaveMore();
        unloaded();
        itemNumbers();
        itemProperties();
        lengthsAhead();
        noSuchItem();
        settingRanges();
        forTheCyclesFromNowOn();
        staysStopped();
        doesNotStopByIt();
        pitchRange();
        pitchBefore();
        ringRange();
        letOut();
        letOutInOrder();
        productsAndSpeed();
        untilItStops();
        stoppedApplicator();
        Due.end();
    }

    private static void newObject() {
        Due.sentence("Creates an applicator without a web, with an empty text.");
        LabelApplicator x = new LabelApplicator();
        Due.be("items", x.count(0), 0);
        Due.be("item(0, 0)", x.item(0, 0), Due.NONE);
        Due.be("bytes", x.count(23), 0);
        Due.be("unload()", x.unload(), 0);
        Due.be("clear()", x.clear(), 0);
        Due.be("load()", x.load(), 0);
    }

    private static void letters() {
        Due.sentence("`letter`: 0 to 127");
        Due.range("type", 0, 127, letter -> new LabelApplicator().type(letter));
        Due.be("type(108 + 256)", new LabelApplicator().type(108 + 256), Due.BAD);
        Due.be("type(108 - 128)", new LabelApplicator().type(108 - 128), Due.BAD);
    }

    private static void lengthThen() {
        Due.sentence("Returns the length of the text then; BAD;");
        LabelApplicator x = new LabelApplicator();
        Due.be("the first", x.type(0), 1);
        Due.be("refused", x.type(128), Due.BAD);
        Due.be("the second", x.type(127), 2);
        Due.be("bytes", x.count(23), 2);
    }

    private static void fullText() {
        Due.sentence("FULL if it has 80 bytes.");
        LabelApplicator x = new LabelApplicator();
        for (int length = 1; length <= 80; length++) {
            Due.be("type", x.type('g'), length);
        }
        Due.refused(x, "the 81st", Due.FULL, () -> x.type('g'));
        Due.refused(x, "the 81st again", Due.FULL, () -> x.type('g'));
        Due.be("bytes", x.count(23), 80);
    }

    private static void clearedText() {
        Due.sentence("Empties the text.");
        LabelApplicator x = Due.with("l5g3");
        x.clear();
        Due.be("bytes", x.count(23), 0);
        Due.be("nothing is read", x.load(), 2);
        Due.be("type", x.type('b'), 1);
        Due.be("old bytes are gone", x.load(), -2001);
        Due.be("the web stays", x.count(0), 2);
    }

    private static void clearAtBothEnds() {
        Due.sentence("Returns the length that it had.");
        LabelApplicator x = new LabelApplicator();
        Due.be("clear() of nothing", x.clear(), 0);
        x.type(' ');
        Due.be("clear() of one", x.clear(), 1);
        Due.be("clear() again", x.clear(), 0);
        Due.type(x, " ".repeat(80));
        x.type(' ');
        Due.be("clear() of 80", x.clear(), 80);
        Due.be("type", x.type(' '), 1);
    }

    private static void allOfThemOrNone() {
        Due.sentence("appends its items to the web, all of them or none");
        LabelApplicator x = Due.with("78*l1");
        Due.be("three", Due.load(x, "b2g3s4"), Due.FULL);
        Due.be("none", x.count(0), 78);
        Due.be("item(78, 0)", x.item(78, 0), Due.NONE);
        Due.be("two", Due.load(x, "b2g3"), 80);
        Due.be("item(78, 0)", x.item(78, 0), 2);
        Due.be("item(79, 0)", x.item(79, 0), 1);
        LabelApplicator y = Due.with("l5");
        Due.be("two and a fault", Due.load(y, "b2g3x"), -2004);
        Due.be("none", y.count(0), 1);
        Due.be("item(1, 0)", y.item(1, 0), Due.NONE);
    }

    private static void textStays() {
        Due.sentence("The text stays.");
        LabelApplicator x = new LabelApplicator();
        Due.type(x, "l5g3");
        Due.be("load()", x.load(), 2);
        Due.be("bytes", x.count(23), 4);
        Due.be("load()", x.load(), 4);
        Due.be("type", x.type('0'), 5);
        Due.be("load()", x.load(), 6);
        Due.be("the last length", x.item(5, 1), 30);
        x.type('1');
        Due.be("load() with a fault", x.load(), -2005);
        Due.be("bytes", x.count(23), 6);
        Due.be("load() again", x.load(), -2005);
    }

    private static void faultOfTheText() {
        Due.sentence("-2000 - p if the text has the fault p");
        LabelApplicator x = new LabelApplicator();
        Due.be("the least", Due.load(x, "*"), -2000);
        Due.be("the greatest", Due.load(x, " ".repeat(79) + "("), -2080);
        Due.be("items", x.count(0), 0);
    }

    private static void webWouldHaveMore() {
        Due.sentence("FULL if the web would have more than 80 items.");
        for (int items = 1; items <= 79; items += 13) {
            LabelApplicator x = Due.with(items + "*l1");
            Due.be("81 with " + items, Due.load(x, (81 - items) + "*l1"), Due.FULL);
            Due.be("as before", x.count(0), items);
            Due.be("80 with " + items, Due.load(x, (80 - items) + "*l1"), 80);
            Due.be("none more", Due.load(x, " () "), 80);
            Due.be("one more", Due.load(x, "l1"), Due.FULL);
        }
    }

    private static void unloaded() {
        Due.sentence("Takes the web out.");
        LabelApplicator x = Due.with("80*l1");
        Due.be("unload() of 80", x.unload(), 80);
        Due.be("items", x.count(0), 0);
        Due.be("item(0, 0)", x.item(0, 0), Due.NONE);
        Due.be("unload() of none", x.unload(), 0);
        Due.be("load() of 80", x.load(), 80);
        x.run(1, 0);
        Due.be("unload() of what is left", x.unload(), 0);
        Due.cycle(x, 0, 0, 0, 1, 0, 0, 3);
    }

    private static void itemNumbers() {
        Due.sentence("BAD if i is negative or what is out of range");
        LabelApplicator x = Due.with("l5g3");
        int[] numbers = {-1, -2, -80, Integer.MIN_VALUE};
        for (int i : numbers) {
            Due.be("item(" + i + ", 0)", x.item(i, 0), Due.BAD);
        }
        x.run(1, 0);
        Due.be("item(-1, 0) where an item was", x.item(-1, 0), Due.BAD);
    }

    private static void itemProperties() {
        Due.sentence("`what`: 0: its kind; 1: its length; 2: the sum of the lengths of all items ahead of it");
        LabelApplicator x = Due.with("l5g3s9");
        Due.range("item(0, ..)", 0, 2, what -> x.item(0, what));
        Due.range("item(2, ..)", 0, 2, what -> x.item(2, what));
        Due.range("item(3, ..)", 0, 2, what -> x.item(3, what));
        Due.webBe("all", x, new int[] {0, 5}, new int[] {1, 3}, new int[] {3, 9});
    }

    private static void lengthsAhead() {
        Due.sentence("2: the sum of the lengths of all items ahead of it");
        LabelApplicator x = Due.with("80*l99");
        Due.be("ahead of the first", x.item(0, 2), 0);
        Due.be("ahead of the second", x.item(1, 2), 99);
        Due.be("ahead of the last", x.item(79, 2), 79 * 99);
        x.run(1, 0);
        Due.be("two were taken", x.count(0), 78);
        Due.be("ahead of the first", x.item(0, 2), 0);
        Due.be("ahead of the last", x.item(77, 2), 77 * 99);
    }

    private static void noSuchItem() {
        Due.sentence("NONE if there are not so many items.");
        LabelApplicator x = Due.with("l47g3b9");
        Due.be("item(2, 1)", x.item(2, 1), 9);
        int[] numbers = {3, 4, 79, 80, 81, Integer.MAX_VALUE};
        for (int i : numbers) {
            for (int what = 0; what < 3; what++) {
                Due.be("item(" + i + ", " + what + ")", x.item(i, what), Due.NONE);
            }
        }
        x.run(1, 0);
        Due.be("item(0, 1)", x.item(0, 1), 9);
        Due.be("item(1, 1)", x.item(1, 1), Due.NONE);
    }

    private static void settingRanges() {
        Due.sentence("`what`: its number");
        Due.range("set(.., 5)", 0, 7, what -> new LabelApplicator().set(what, what == 2 ? 10 : 5));
        LabelApplicator x = new LabelApplicator();
        Due.be("set(8, 5)", x.set(8, 5), Due.BAD);
        Due.be("set(-1, 5)", x.set(-1, 5), Due.BAD);
        Due.countsBe("as before", x, 15, 3, 5, 150, 400, 100, 10, 2, 3);
    }

    private static void forTheCyclesFromNowOn() {
        Due.sentence("Sets a setting, for the cycles from now on.");
        LabelApplicator x = Due.with("l53g3 l53g3 l47g2 l47g3");
        Due.cycle(x, 50, 56, 1, 6, 50, 2, 1);
        x.set(1, 6);
        Due.be("the reason of before", x.latest(2), 6);
        Due.be("at its station", x.station(0), 6);
        Due.cycle(x, 50, 56, 1, 0, 50, 2, 1);
        x.set(0, 2);
        Due.cycle(x, 50, 49, 1, 0, 50, 2, 1);
        x.set(3, 7);
        Due.be("the speed of before", x.count(3), 50);
        Due.cycle(x, 50, 50, 1, 7, 7, 2, 1);
    }

    private static void staysStopped() {
        Due.sentence("(An applicator that has stopped stays so");
        LabelApplicator x = new LabelApplicator();
        x.run(3, 0);
        x.set(7, 9);
        Due.be("stopped", x.count(14), 1);
        Due.be("run(1, 0)", x.run(1, 0), Due.STATE);
        Due.be("faults", x.count(13), 3);
    }

    private static void doesNotStopByIt() {
        Due.sentence("one that has not does not stop by it.)");
        LabelApplicator x = new LabelApplicator();
        x.run(2, 0);
        x.set(7, 2);
        Due.be("stopped", x.count(14), 0);
        x.set(7, 1);
        Due.be("stopped", x.count(14), 0);
        Due.be("run(1, 0)", x.run(1, 0), 1);
        Due.be("stopped", x.count(14), 1);
    }

    private static void pitchRange() {
        Due.sentence("`tenths`: the pitch in tenths of millimeters, 10 to 2000; it becomes tenths / 10.0f");
        Due.range("setPitch", 10, 2000, tenths -> new LabelApplicator().setPitch(tenths));
        int[] all = {10, 11, 13, 333, 1023, 1999, 2000};
        for (int tenths : all) {
            LabelApplicator x = new LabelApplicator();
            x.setPitch(tenths);
            Due.be("pitch() of " + tenths, x.pitch(), Float.floatToIntBits(tenths / 10.0f));
        }
    }

    private static void pitchBefore() {
        Due.sentence("Returns the bits of the pitch before");
        LabelApplicator x = new LabelApplicator();
        Due.be("setPitch(10)", x.setPitch(10), Float.floatToIntBits(50.0f));
        Due.be("setPitch(9)", x.setPitch(9), Due.BAD);
        Due.be("setPitch(2001)", x.setPitch(2001), Due.BAD);
        Due.be("setPitch(2000)", x.setPitch(2000), Float.floatToIntBits(1.0f));
        Due.be("setPitch(2000)", x.setPitch(2000), Float.floatToIntBits(200.0f));
    }

    private static void ringRange() {
        Due.sentence("`stations`: 1 to 10");
        LabelApplicator x = Due.with("l47g3");
        x.run(1, 50);
        Due.refused(x, "setRing(0)", Due.BAD, () -> x.setRing(0));
        Due.refused(x, "setRing(11)", Due.BAD, () -> x.setRing(11));
        Due.be("setRing(10)", x.setRing(10), 1);
        Due.be("station(9)", x.station(9), Due.NONE);
        Due.be("setRing(1)", x.setRing(1), 0);
        Due.be("station(0)", x.station(0), Due.NONE);
        Due.be("station(1)", x.station(1), Due.BAD);
    }

    private static void letOut() {
        Due.sentence("All products in it are let out first: they pass the gate, and are delivered or diverted");
        LabelApplicator x = Due.with("2*(l47g3)b47g3");
        Due.be("setRing(4) of none", x.setRing(4), 0);
        x.run(3, 50);
        Due.countsBe("in the ring", x, 5, 3, 3, 0, 0);
        Due.be("the same number of stations", x.setRing(4), 3);
        Due.countsBe("let out", x, 4, 4, 0, 3, 2, 1);
        for (int station = 0; station < 4; station++) {
            Due.be("station(" + station + ")", x.station(station), Due.NONE);
        }
        x.setRing(10);
        x.set(7, 9);
        x.clearFaults();
        Due.load(x, "20*(l47g3)");
        x.run(10, 50);
        Due.countsBe("ten in the ring", x, 5, 10, 13, 2, 1);
        Due.be("setRing(1) of ten", x.setRing(1), 10);
        Due.countsBe("let out", x, 4, 1, 0, 13, 12, 1);
        x.run(1, 50);
        Due.be("setRing(1) of one", x.setRing(1), 1);
        Due.countsBe("let out", x, 4, 1, 0, 14, 13, 1);
    }

    private static void letOutInOrder() {
        Due.sentence("Returns how many products were let out; BAD.");
        LabelApplicator x = Due.with("9*(l47g3)");
        x.run(7, 50);
        Due.countsBe("three left, four are in the ring", x, 5, 4, 7, 3, 0);
        Due.be("setRing(3)", x.setRing(3), 4);
        Due.countsBe("let out", x, 5, 0, 7, 7, 0);
    }

    private static void productsAndSpeed() {
        Due.sentence("`products`: how many at most, 1 to 100");
        Due.range("run(.., 0)", 1, 100, products -> new LabelApplicator().run(products, 0));
        Due.sentence("`speed`: the speed of the conveyor, 0 to 1000");
        Due.range("run(1, ..)", 0, 1000, speed -> new LabelApplicator().run(1, speed));
        Due.range("run(100, ..)", 0, 1000, speed -> new LabelApplicator().run(100, speed));
    }

    private static void untilItStops() {
        Due.sentence("Lets products come, one after the other, until the applicator stops.");
        LabelApplicator x = Due.with("40*(l47g3)");
        Due.be("run(1, 50)", x.run(1, 50), 1);
        Due.be("run(38, 50)", x.run(38, 50), 38);
        Due.be("run(100, 50)", x.run(100, 50), 4);
        Due.be("came", x.count(6), 43);
        LabelApplicator most = Due.with("8*(8*g1 l1g1)");
        most.set(0, 1);
        most.set(1, 50);
        most.set(7, 9);
        most.setPitch(10);
        Due.be("run(100, 0)", most.run(100, 0), 81);
        Due.countsBe("reasons", most, 24, 8, 9, 0, 0, 64, 0, 0, 0);
    }

    private static void stoppedApplicator() {
        Due.sentence("STATE if the applicator has stopped.");
        LabelApplicator x = Due.with("l47g3");
        x.unload();
        x.run(2, 0);
        Due.be("the last before it stops", x.run(1, 0), 1);
        x.load();
        Due.refused(x, "run(1, 0)", Due.STATE, () -> x.run(1, 0));
        Due.refused(x, "run(100, 1000)", Due.STATE, () -> x.run(100, 1000));
        x.clearFaults();
        Due.be("run(1, 0)", x.run(1, 0), 1);
    }
}
