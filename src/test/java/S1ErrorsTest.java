/** The sentences of the document on errors, a method each. */
public final class S1ErrorsTest {
    public static void main(String[] args) {
        namesWhatDoesNotExist();
        notPossibleAtPresent();
        limitsExceeded();
        faultsOfTextsAreErrors();
        theFirstInTheDescription();
        changesNothing();
        slotsStay();
        noneIsNoError();
        noneOnlyIfNoErrorApplies();
        untilTheLastCall();
        Due.end();
    }

    private static void namesWhatDoesNotExist() {
        Due.sentence("BAD: an argument is out of range, or names something that does not exist.");
        LabelApplicator x = new LabelApplicator();
        Due.be("station(3)", x.station(3), Due.NONE);
        Due.be("station(4)", x.station(4), Due.BAD);
        Due.be("set(8, 1)", x.set(8, 1), Due.BAD);
        Due.be("best(2, 1, 1)", x.best(2, 1, 1), Due.BAD);
        Due.be("save(2)", x.save(2), Due.BAD);
        Due.be("count(32)", x.count(32), Due.BAD);
    }

    private static void notPossibleAtPresent() {
        Due.sentence("STATE: the call is not possible at present, as described.");
        LabelApplicator x = new LabelApplicator();
        Due.be("restore(0)", x.restore(0), Due.STATE);
        x.save(0);
        Due.be("restore(0)", x.restore(0), 0);
        x.run(3, 0);
        Due.be("run(1, 0)", x.run(1, 0), Due.STATE);
        x.clearFaults();
        Due.be("run(1, 0)", x.run(1, 0), 1);
    }

    private static void limitsExceeded() {
        Due.sentence("FULL: a limit would be exceeded.");
        LabelApplicator x = new LabelApplicator();
        for (int i = 1; i <= 80; i++) {
            Due.be("type", x.type(' '), i);
        }
        Due.be("type", x.type(' '), Due.FULL);
        Due.be("load of 80", Due.load(x, "80*g9"), 80);
        Due.be("load of one more", Due.load(x, "g9"), Due.FULL);
    }

    private static void faultsOfTextsAreErrors() {
        Due.sentence("Results of -2000 and less are errors, too.");
        LabelApplicator x = Due.with("l47g3");
        x.clear();
        x.type('x');
        Due.refused(x, "load of a text with the fault 0", -2000, x::load);
        x.clear();
        for (int i = 0; i < 80; i++) {
            x.type('(');
        }
        Due.refused(x, "load of a text with the fault 3", -2003, x::load);
    }

    private static void theFirstInTheDescription() {
        Due.sentence("If several of them apply to a call, the one that comes first in the description of the result"
                + " is returned.");
        LabelApplicator x = new LabelApplicator();
        Due.be("restore(2)", x.restore(2), Due.BAD);
        Due.be("restore(-1)", x.restore(-1), Due.BAD);
        x.run(3, 0);
        Due.be("run(0, 0) when stopped", x.run(0, 0), Due.BAD);
        Due.be("run(101, 0) when stopped", x.run(101, 0), Due.BAD);
        Due.be("run(1, -1) when stopped", x.run(1, -1), Due.BAD);
        Due.be("run(1, 1001) when stopped", x.run(1, 1001), Due.BAD);
        Due.be("81 items, and a fault", Due.load(x, "81*l1x"), -2005);
        Due.be("the same without the fault", Due.load(x, "81*l1"), Due.FULL);
        Due.be("81 items, and the text ends too early", Due.load(x, "81*l1("), -2006);
        Due.be("81 items, and a number that is 0", Due.load(x, "81*l1 l0"), -2007);
        Due.be("81 items in parentheses, and a fault", Due.load(x, "9*(9*(l1)))"), -2010);
        Due.be("80 items", Due.load(x, "80*l1"), 80);
        Due.be("no room, and a fault", Due.load(x, "l1l"), -2003);
        while (x.count(23) < 80) {
            x.type('l');
        }
        Due.be("type(128) when full", x.type(128), Due.BAD);
        Due.be("type(-1) when full", x.type(-1), Due.BAD);
        Due.be("type(127) when full", x.type(127), Due.FULL);
    }

    /** An applicator that has stopped, with products in its ring, items, and a text. */
    private static LabelApplicator rich() {
        LabelApplicator x = Due.with("l46g3 l20l27g3 3*(b47g3) 5*(l47g3)");
        x.setRing(6);
        x.set(5, 99);
        x.run(9, 130);
        Due.be("stopped", x.count(14), 1);
        Due.be("came", x.count(6), 5);
        return x;
    }

    private static void changesNothing() {
        Due.sentence("A call that returns an error changes nothing.");
        LabelApplicator x = rich();
        Due.refused(x, "type(-1)", Due.BAD, () -> x.type(-1));
        Due.refused(x, "type(128)", Due.BAD, () -> x.type(128));
        Due.refused(x, "item(-1, 0)", Due.BAD, () -> x.item(-1, 0));
        Due.refused(x, "item(0, 3)", Due.BAD, () -> x.item(0, 3));
        for (int what = 0; what < 8; what++) {
            int setting = what;
            Due.refused(x, "set(" + what + ", -1)", Due.BAD, () -> x.set(setting, -1));
            Due.refused(x, "set(" + what + ", 1001)", Due.BAD, () -> x.set(setting, 1001));
        }
        Due.refused(x, "setPitch(9)", Due.BAD, () -> x.setPitch(9));
        Due.refused(x, "setPitch(2001)", Due.BAD, () -> x.setPitch(2001));
        Due.refused(x, "setRing(0)", Due.BAD, () -> x.setRing(0));
        Due.refused(x, "setRing(11)", Due.BAD, () -> x.setRing(11));
        Due.refused(x, "run(1, 130)", Due.STATE, () -> x.run(1, 130));
        Due.refused(x, "run(0, 130)", Due.BAD, () -> x.run(0, 130));
        Due.refused(x, "latest(6)", Due.BAD, () -> x.latest(6));
        Due.refused(x, "station(6)", Due.BAD, () -> x.station(6));
        Due.refused(x, "foretell(101, 130, 0)", Due.BAD, () -> x.foretell(101, 130, 0));
        Due.refused(x, "foretell(1, 130, 4)", Due.BAD, () -> x.foretell(1, 130, 4));
        Due.refused(x, "best(7, 1, 130)", Due.BAD, () -> x.best(7, 1, 130));
        Due.refused(x, "best(1, 0, 130)", Due.BAD, () -> x.best(1, 0, 130));
        Due.refused(x, "save(2)", Due.BAD, () -> x.save(2));
        Due.refused(x, "restore(1)", Due.STATE, () -> x.restore(1));
        Due.refused(x, "count(-1)", Due.BAD, () -> x.count(-1));
        x.clear();
        Due.type(x, "3*l4 80*g5");
        Due.refused(x, "load of too many", Due.FULL, x::load);
        x.type('(');
        Due.refused(x, "load of a text that ends too early", -2011, x::load);
        while (x.count(23) < 80) {
            x.type('(');
        }
        Due.refused(x, "type(40) when full", Due.FULL, () -> x.type('('));
        x.clearFaults();
        Due.refused(x, "run(101, 130)", Due.BAD, () -> x.run(101, 130));
        Due.refused(x, "run(1, 1001)", Due.BAD, () -> x.run(1, 1001));
        Due.be("then it goes on", x.run(5, 130), 5);
    }

    private static void slotsStay() {
        Due.sentence("A call that returns an error changes nothing.");
        LabelApplicator x = rich();
        x.save(0);
        long then = x.digest();
        x.clearFaults();
        x.run(1, 130);
        x.save(-1);
        x.save(2);
        x.restore(2);
        x.restore(1);
        x.run(0, 0);
        Due.be("restore(1)", x.restore(1), Due.STATE);
        Due.be("restore(0)", x.restore(0), 10);
        Due.be("digest()", x.digest(), then);
    }

    private static void noneIsNoError() {
        Due.sentence("NONE is not an error; it means that there is no such thing");
        LabelApplicator x = new LabelApplicator();
        Due.be("item(0, 0)", x.item(0, 0), Due.NONE);
        Due.be("latest(0)", x.latest(0), Due.NONE);
        Due.be("station(0)", x.station(0), Due.NONE);
        Due.be("foretell(2, 0, 3)", x.foretell(2, 0, 3), Due.NONE);
    }

    private static void noneOnlyIfNoErrorApplies() {
        Due.sentence("and is returned only if no error applies");
        LabelApplicator x = new LabelApplicator();
        Due.be("item(0, 3)", x.item(0, 3), Due.BAD);
        Due.be("item(80, -1)", x.item(80, -1), Due.BAD);
        Due.be("item(-1, 0)", x.item(-1, 0), Due.BAD);
        Due.be("latest(6)", x.latest(6), Due.BAD);
        Due.be("latest(-1)", x.latest(-1), Due.BAD);
        Due.be("station(4)", x.station(4), Due.BAD);
        Due.be("station(-1)", x.station(-1), Due.BAD);
        Due.be("foretell(0, 0, 3)", x.foretell(0, 0, 3), Due.BAD);
        Due.be("foretell(2, 1001, 3)", x.foretell(2, 1001, 3), Due.BAD);
    }

    private static void untilTheLastCall() {
        Due.sentence("An object is used for at most 512 calls after it has been made");
        LabelApplicator x = new LabelApplicator();
        x.set(7, 1);
        for (int i = 1; i <= 255; i++) {
            Due.be("run", x.run(100, 0), 1);
            Due.be("clearFaults()", x.clearFaults(), 1);
        }
        Due.be("the 512th call", x.count(25), 255);
    }
}
