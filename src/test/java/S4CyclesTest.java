/** The sentences of the document on cycles that name an edge, a method each. */
public final class S4CyclesTest {
    public static void main(String[] args) {
        takenFromTheFront();
        travel();
        onlyBehindAGap();
        leastGap();
        pitchLessWindow();
        pitchLessWindowInFloats();
        windowGreaterThanPitch();
        greaterThanTheGreatestFeed();
        lostBehindAnyItem();
        notLostWhereMarked();
        markedAtTheLastItem();
        lostAtTheLastItem();
        emptyBehindTheLastItem();
        emptyWithoutItems();
        late();
        lateInFloats();
        onlyMarkedCyclesAreLate();
        labelsOfACycle();
        Due.end();
    }

    /** One cycle of a new object at speed 50, and how many items it leaves. */
    private static void cycleIs(String web, int left, int... latest) {
        LabelApplicator x = Due.with(web);
        Due.cycle(x, 50, latest);
        Due.be("items left of " + web, x.count(0), left);
    }

    private static void takenFromTheFront() {
        Due.sentence("Then items are taken from the front of the web, one after the other, and removed");
        LabelApplicator x = Due.with("l47g3 b9 g2 l9");
        Due.cycle(x, 50, 50, 1, 0, 50, 2, 1);
        Due.webBe("the others", x, new int[] {2, 9}, new int[] {1, 2}, new int[] {0, 9});
        Due.cycle(x, 50, 20, 1, 1, 50, 3, 3);
        Due.webBe("none", x);
    }

    private static void travel() {
        Due.sentence("the travel is the sum of their lengths so far");
        cycleIs("l1g1b2s3l4g30g4 l9", 1, 45, 2, 3, 50, 7, 1);
        cycleIs("l1g1b2s3l4", 0, 11, 2, 1, 50, 5, 3);
    }

    private static void onlyBehindAGap() {
        Due.sentence("marked, behind a gap");
        cycleIs("l50g3", 0, 53, 1, 0, 50, 2, 1);
        cycleIs("l9b50g3", 0, 62, 1, 6, 50, 3, 1);
        cycleIs("l20s30g3", 0, 53, 1, 3, 50, 3, 1);
        cycleIs("l20s30", 0, 50, 1, 1, 50, 2, 3);
        cycleIs("l50", 0, 50, 1, 1, 50, 1, 3);
        cycleIs("b50", 0, 50, 0, 1, 50, 1, 3);
    }

    private static void leastGap() {
        Due.sentence("that is at least as long as the least gap");
        cycleIs("l47g2", 0, 49, 1, 1, 50, 2, 3);
        cycleIs("l47g3", 0, 50, 1, 0, 50, 2, 1);
        cycleIs("l47g4", 0, 51, 1, 0, 50, 2, 1);
        LabelApplicator x = Due.with("l20g29g30");
        x.set(0, 30);
        Due.cycle(x, 50, 79, 1, 6, 50, 3, 1);
        LabelApplicator y = Due.with("l49g1g1");
        y.set(0, 1);
        Due.cycle(y, 50, 50, 1, 0, 50, 2, 1);
    }

    private static void pitchLessWindow() {
        Due.sentence("if the travel as a float is at least pitch - window");
        cycleIs("l41g3 l9", 0, 53, 2, 1, 50, 3, 3);
        cycleIs("l42g3 l9", 1, 45, 1, 0, 50, 2, 1);
        cycleIs("l43g3 l9", 1, 46, 1, 0, 50, 2, 1);
        LabelApplicator x = Due.with("l46g3g3");
        x.set(1, 0);
        Due.cycle(x, 50, 52, 1, 6, 50, 3, 1);
        LabelApplicator y = Due.with("l47g3g3");
        y.set(1, 0);
        Due.cycle(y, 50, 50, 1, 0, 50, 2, 1);
        LabelApplicator z = Due.with("l47g3g3");
        z.set(1, 0);
        z.setPitch(501);
        Due.cycle(z, 50, 53, 1, 6, 50, 3, 1);
    }

    /** 18 good cycles of 60 lead the pitch from 61 to 60 and the least float more than that. */
    private static void pitchLessWindowInFloats() {
        Due.sentence("(All arithmetic with the pitch is that of Java's float; an int is converted to float first.)");
        LabelApplicator x = Due.with("18*(l57g3)");
        x.setPitch(610);
        x.set(6, 4);
        Due.be("run(18, 50)", x.run(18, 50), 18);
        Due.be("pitch()", x.pitch(), Float.floatToIntBits(60.0f) + 1);
        x.set(1, 0);
        x.set(6, 0);
        Due.be("load()", Due.load(x, "l57g3g3 l57g4"), 5);
        Due.cycle(x, 50, 63, 1, 6, 50, 3, 1);
        Due.cycle(x, 50, 61, 1, 6, 50, 2, 1);
    }

    private static void windowGreaterThanPitch() {
        Due.sentence("if the travel as a float is at least pitch - window");
        LabelApplicator x = Due.with("g2g3l1g3");
        x.setPitch(10);
        x.set(1, 50);
        Due.cycle(x, 50, 5, 0, 4, 50, 2, 1);
        Due.cycle(x, 50, 4, 1, 0, 50, 2, 1);
    }

    private static void greaterThanTheGreatestFeed() {
        Due.sentence("if the travel is greater than the greatest feed");
        cycleIs("b99l51 l9", 0, 159, 2, 2, 50, 3, 2);
        cycleIs("b99l51", 0, 150, 1, 1, 50, 2, 3);
        cycleIs("b99l52 l9", 1, 151, 1, 2, 50, 2, 2);
        LabelApplicator x = Due.with("l10g2l11");
        x.set(2, 10);
        Due.cycle(x, 50, 12, 1, 2, 50, 2, 2);
        Due.cycle(x, 50, 11, 1, 2, 50, 1, 2);
        LabelApplicator y = Due.with("4*b99 b4 b1");
        y.set(2, 400);
        Due.cycle(y, 50, 401, 0, 2, 50, 6, 2);
    }

    private static void lostBehindAnyItem() {
        Due.sentence("lost, behind an item behind which it is not marked");
        cycleIs("b99b51 l1 g9", 1, 151, 1, 2, 50, 3, 2);
        cycleIs("b99b51 b1 g9", 1, 151, 0, 2, 50, 3, 2);
        cycleIs("b99b51 s1 g9", 1, 151, 0, 2, 50, 3, 2);
        cycleIs("b99b51 g1 g9", 1, 151, 0, 2, 50, 3, 2);
        cycleIs("b99b51 g2 g9", 1, 152, 0, 2, 50, 3, 2);
    }

    private static void notLostWhereMarked() {
        Due.sentence("behind which it is not marked");
        cycleIs("b99b51 g3", 0, 153, 0, 4, 50, 3, 1);
        cycleIs("b99l51 g3", 0, 153, 1, 6, 50, 3, 1);
        cycleIs("b99l49 g3", 0, 151, 1, 6, 50, 3, 1);
        LabelApplicator x = Due.with("b9g3");
        x.set(2, 10);
        Due.cycle(x, 50, 12, 0, 2, 50, 2, 2);
        LabelApplicator y = Due.with("l9g3");
        y.set(2, 10);
        y.setPitch(120);
        Due.cycle(y, 50, 12, 1, 0, 50, 2, 1);
    }

    private static void markedAtTheLastItem() {
        Due.sentence("empty, if it is neither marked nor lost, and there is no item left");
        cycleIs("l47g3", 0, 50, 1, 0, 50, 2, 1);
        cycleIs("l99b51g3", 0, 153, 1, 6, 50, 3, 1);
    }

    private static void lostAtTheLastItem() {
        Due.sentence("empty, if it is neither marked nor lost, and there is no item left");
        cycleIs("b99b52", 0, 151, 0, 2, 50, 2, 2);
        cycleIs("b99b51", 0, 150, 0, 1, 50, 2, 3);
    }

    private static void emptyBehindTheLastItem() {
        Due.sentence("empty, if it is neither marked nor lost, and there is no item left");
        cycleIs("l47", 0, 47, 1, 1, 50, 1, 3);
        cycleIs("g30", 0, 30, 0, 1, 50, 1, 3);
        cycleIs("l41g3", 0, 44, 1, 1, 50, 2, 3);
        LabelApplicator x = Due.with("l47g3l7");
        Due.cycle(x, 50, 50, 1, 0, 50, 2, 1);
        Due.cycle(x, 50, 7, 1, 1, 50, 1, 3);
        Due.cycle(x, 50, 0, 0, 1, 50, 0, 3);
    }

    private static void emptyWithoutItems() {
        Due.sentence("(also if there was none at first; the travel is 0 then)");
        cycleIs("", 0, 0, 0, 1, 50, 0, 3);
        LabelApplicator x = Due.with("l47g3");
        x.setPitch(10);
        x.set(1, 50);
        x.unload();
        Due.cycle(x, 0, 0, 0, 1, 0, 0, 3);
    }

    private static void late() {
        Due.sentence("A marked cycle is late if the travel as a float is greater than pitch + window.");
        lateIs(Due.with("l51g3"), 54, 0);
        lateIs(Due.with("l52g3"), 55, 0);
        lateIs(Due.with("l53g3"), 56, 1);
        LabelApplicator x = Due.with("l47g3");
        x.set(1, 0);
        lateIs(x, 50, 0);
        LabelApplicator y = Due.with("l47g3");
        y.set(1, 0);
        y.setPitch(499);
        lateIs(y, 50, 1);
        LabelApplicator z = Due.with("l97g3");
        z.set(1, 50);
        lateIs(z, 100, 0);
        LabelApplicator w = Due.with("l98g3");
        w.set(1, 50);
        lateIs(w, 101, 1);
    }

    private static void lateIs(LabelApplicator x, int travel, int late) {
        Due.cycle(x, 50, travel, 1, late == 1 ? 6 : 0, 50, 2, 1);
        Due.be("late cycles", x.count(12), late);
    }

    /**
     * 18 good cycles of 60 lead the pitch from 59 to 60 less half a hundredthousandth; with the window of 5 that
     * would be less than 65, but in floats it is 65.
     */
    private static void lateInFloats() {
        Due.sentence("(All arithmetic with the pitch is that of Java's float; an int is converted to float first.)");
        LabelApplicator x = Due.with("18*(l57g3) l62g3");
        x.setPitch(590);
        x.set(6, 4);
        Due.be("run(18, 50)", x.run(18, 50), 18);
        Due.be("pitch()", x.pitch(), Float.floatToIntBits(60.0f) - 1);
        Due.cycle(x, 50, 65, 1, 0, 50, 2, 1);
        Due.be("pitch()", x.pitch(), Float.floatToIntBits(62.5f));
    }

    private static void onlyMarkedCyclesAreLate() {
        Due.sentence("A marked cycle is late");
        LabelApplicator x = Due.with("b99b99 l99l1");
        Due.cycle(x, 50, 198, 0, 2, 50, 2, 2);
        Due.cycle(x, 50, 100, 2, 1, 50, 2, 3);
        Due.be("late cycles", x.count(12), 0);
    }

    private static void labelsOfACycle() {
        Due.sentence("The labels of a cycle are the labels among its items.");
        cycleIs("b10s10g30 l9", 1, 50, 0, 3, 50, 3, 1);
        cycleIs("b10l10g30 l9", 1, 50, 1, 0, 50, 3, 1);
        cycleIs("l10l10g30 l9", 1, 50, 2, 5, 50, 3, 1);
        cycleIs("30*l1 g30 l9", 1, 60, 30, 5, 50, 31, 1);
    }
}
