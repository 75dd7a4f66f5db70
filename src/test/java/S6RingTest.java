/** The sentences of the document on the ring that name an edge, a method each. */
public final class S6RingTest {
    public static void main(String[] args) {
        oneToTenStations();
        emptyAtFirst();
        lastStation();
        noProductAtTheLastStation();
        goodAndBad();
        nextStation();
        Due.end();
    }

    private static void oneToTenStations() {
        Due.sentence("there is a ring of n stations, 1 to 10 (at first 4)");
        Due.range("setRing", 1, 10, stations -> new LabelApplicator().setRing(stations));
        LabelApplicator x = new LabelApplicator();
        Due.be("count(4)", x.count(4), 4);
        Due.be("station(3)", x.station(3), Due.NONE);
        Due.be("station(4)", x.station(4), Due.BAD);
        for (int stations = 1; stations <= 10; stations++) {
            x.setRing(stations);
            Due.be("count(4)", x.count(4), stations);
            Due.be("the last station", x.station(stations - 1), Due.NONE);
            Due.be("no station", x.station(stations), Due.BAD);
        }
    }

    private static void emptyAtFirst() {
        Due.sentence("which are empty at first");
        LabelApplicator x = new LabelApplicator();
        for (int station = 0; station < 4; station++) {
            Due.be("station(" + station + ")", x.station(station), Due.NONE);
        }
        Due.be("products", x.count(5), 0);
    }

    private static void lastStation() {
        Due.sentence("the one at the last station, if there is one, passes the gate");
        for (int stations = 1; stations <= 10; stations++) {
            LabelApplicator x = Due.with("40*(l47g3)");
            x.setRing(stations);
            Due.be("run", x.run(stations, 50), stations);
            Due.countsBe(stations + " of " + stations, x, 5, stations, stations, 0, 0);
            Due.be("run", x.run(1, 50), 1);
            Due.countsBe("one more", x, 5, stations, stations + 1, 1, 0);
            Due.be("run", x.run(stations, 50), stations);
            Due.countsBe("all are new", x, 5, stations, 2 * stations + 1, stations + 1, 0);
        }
    }

    private static void noProductAtTheLastStation() {
        Due.sentence("if there is one");
        LabelApplicator x = Due.with("4*(l47g3)");
        for (int came = 1; came <= 4; came++) {
            x.run(1, 50);
            Due.countsBe("behind " + came, x, 5, came, came, 0, 0);
            Due.be("station(3)", x.station(3), came == 4 ? 0 : Due.NONE);
        }
    }

    private static void goodAndBad() {
        Due.sentence("a good one is delivered, a bad one is diverted");
        LabelApplicator x = Due.with("l47g3 l99l99 s3l44g3 b47g3 l20l27g3 l53g3 l47g3");
        x.setRing(1);
        x.set(7, 9);
        int[] delivered = {0, 1, 1, 1, 1, 1, 1, 2, 2};
        int[] diverted = {0, 0, 1, 2, 3, 4, 5, 5, 6};
        for (int i = 0; i < delivered.length; i++) {
            x.run(1, 50);
            Due.countsBe("behind " + (i + 1), x, 7, delivered[i], diverted[i]);
        }
        LabelApplicator y = Due.with("l47g3");
        y.setRing(1);
        y.run(1, 1000);
        y.run(1, 0);
        Due.countsBe("a wrong speed", y, 7, 0, 1);
    }

    private static void nextStation() {
        Due.sentence("then all products go to the next station, and the new one takes station 0, with its reason");
        LabelApplicator x = Due.with("l47g3 b47g3 l20l27g3 s3l44g3 l53g3");
        x.setRing(3);
        int[][] stations = {{0, -1, -1}, {4, 0, -1}, {5, 4, 0}, {3, 5, 4}, {6, 3, 5}, {1, 6, 3}};
        for (int[] row : stations) {
            x.run(1, 50);
            for (int station = 0; station < 3; station++) {
                Due.be("station(" + station + ")", x.station(station), row[station]);
            }
        }
    }
}
