/** The sentences of the document on settings, the pitch and the speed of the web that name an edge, a method each. */
public final class S3SettingsAndSpeedTest {
    public static void main(String[] args) {
        setting("0 the least gap, 1 to 30 (3)", 0, 1, 30, 3);
        setting("1 the window, 0 to 50 (5)", 1, 0, 50, 5);
        setting("2 the greatest feed, 10 to 400 (150)", 2, 10, 400, 150);
        setting("3 the greatest speed of the web, 1 to 1000 (400)", 3, 1, 1000, 400);
        setting("4 the greatest change of speed, 1 to 1000 (100)", 4, 1, 1000, 100);
        setting("5 the tolerance of speed, 0 to 100 (10)", 5, 0, 100, 10);
        setting("6 the gain, 0 to 8 (2)", 6, 0, 8, 2);
        setting("7 the patience, 1 to 9 (3)", 7, 1, 9, 3);
        pitchAtFirst();
        speedAtFirst();
        speedOfTheConveyor();
        notLessThanTheChangeAllows();
        notMoreThanTheChangeAllows();
        notBelowZero();
        notAboveTheGreatestSpeed();
        nearest();
        noSuchNumber();
        Due.end();
    }

    private static void setting(String sentence, int what, int least, int greatest, int first) {
        Due.sentence(sentence);
        LabelApplicator x = new LabelApplicator();
        Due.be("at first", x.count(15 + what), first);
        Due.range("set(" + what + ", ..)", least, greatest, value -> new LabelApplicator().set(what, value));
        Due.be("set to the least", x.set(what, least), first);
        Due.be("set to the greatest", x.set(what, greatest), least);
        Due.be("set below the least", x.set(what, least - 1), Due.BAD);
        Due.be("set above the greatest", x.set(what, greatest + 1), Due.BAD);
        Due.be("at last", x.count(15 + what), greatest);
    }

    private static void pitchAtFirst() {
        Due.sentence("The pitch is a number of millimeters, a float, at first 50.0f.");
        LabelApplicator x = new LabelApplicator();
        Due.be("pitch()", x.pitch(), Float.floatToIntBits(50.0f));
        Due.be("setPitch(10)", x.setPitch(10), Float.floatToIntBits(50.0f));
    }

    private static void speedAtFirst() {
        Due.sentence("The web has a speed, an integer, at first 0.");
        LabelApplicator x = new LabelApplicator();
        Due.be("count(3)", x.count(3), 0);
        x.set(4, 7);
        Due.cycle(x, 1000, 0, 0, 1, 7, 0, 3);
    }

    private static void speedOfTheConveyor() {
        Due.sentence("which comes with the speed of the conveyor, v, from 0 to 1000");
        Due.range("run(1, ..)", 0, 1000, speed -> new LabelApplicator().run(1, speed));
        LabelApplicator x = Due.with("2*(l47g3)");
        x.set(3, 1000);
        x.set(4, 1000);
        Due.cycle(x, 1000, 50, 1, 0, 1000, 2, 1);
        Due.cycle(x, 0, 50, 1, 0, 0, 2, 1);
    }

    /** An applicator whose web has a speed, and may change it by 100, to 400 at most. */
    private static LabelApplicator atSpeed(int speed) {
        LabelApplicator x = new LabelApplicator();
        x.set(4, 1000);
        x.run(1, speed);
        x.set(4, 100);
        x.clearFaults();
        Due.be("the speed", x.count(3), speed);
        return x;
    }

    private static void becomes(LabelApplicator x, int conveyor, int due) {
        int before = x.count(3);
        x.run(1, conveyor);
        Due.be("the speed, from " + before + " for " + conveyor, x.count(3), due);
        Due.be("latest(3)", x.latest(3), due);
    }

    private static void notLessThanTheChangeAllows() {
        Due.sentence("the number from (speed - greatest change)");
        becomes(atSpeed(250), 0, 150);
        becomes(atSpeed(250), 149, 150);
        becomes(atSpeed(250), 150, 150);
        becomes(atSpeed(250), 151, 151);
    }

    private static void notMoreThanTheChangeAllows() {
        Due.sentence("to (speed + greatest change)");
        becomes(atSpeed(250), 349, 349);
        becomes(atSpeed(250), 350, 350);
        becomes(atSpeed(250), 351, 350);
        becomes(atSpeed(250), 1000, 350);
        becomes(atSpeed(0), 1000, 100);
    }

    private static void notBelowZero() {
        Due.sentence("and from 0");
        becomes(atSpeed(100), 0, 0);
        becomes(atSpeed(99), 0, 0);
        becomes(atSpeed(99), 1, 1);
        becomes(atSpeed(1), 0, 0);
        becomes(atSpeed(0), 0, 0);
        becomes(atSpeed(101), 0, 1);
    }

    private static void notAboveTheGreatestSpeed() {
        Due.sentence("to the greatest speed");
        becomes(atSpeed(350), 399, 399);
        becomes(atSpeed(350), 400, 400);
        becomes(atSpeed(350), 401, 400);
        becomes(atSpeed(350), 1000, 400);
        becomes(atSpeed(400), 1000, 400);
        becomes(atSpeed(300), 1000, 400);
        becomes(atSpeed(299), 1000, 399);
        LabelApplicator x = new LabelApplicator();
        x.set(3, 1);
        becomes(x, 1000, 1);
        becomes(x, 0, 0);
    }

    private static void nearest() {
        Due.sentence("that is nearest to v");
        becomes(atSpeed(250), 250, 250);
        becomes(atSpeed(250), 249, 249);
        becomes(atSpeed(250), 251, 251);
        becomes(atSpeed(0), 1, 1);
        becomes(atSpeed(0), 100, 100);
    }

    private static void noSuchNumber() {
        Due.sentence("(if there is no such number, the greatest speed)");
        int[] conveyors = {0, 149, 150, 200, 300, 1000};
        for (int conveyor : conveyors) {
            LabelApplicator x = atSpeed(300);
            x.set(3, 150);
            becomes(x, conveyor, 150);
        }
        LabelApplicator one = atSpeed(300);
        one.set(3, 200);
        becomes(one, 0, 200);
        LabelApplicator none = atSpeed(300);
        none.set(3, 199);
        becomes(none, 0, 199);
        becomes(none, 0, 99);
        LabelApplicator two = atSpeed(300);
        two.set(3, 201);
        becomes(two, 0, 200);
        LabelApplicator least = atSpeed(300);
        least.set(3, 1);
        becomes(least, 1000, 1);
    }
}
