/** Promise 4, load, and the section on texts. */
public final class P04LoadTest {
    /** Texts, each with the number of its items, or with what load() answers for its fault. */
    private static final Object[][] TEXTS = {
        {"", 0}, {" ", 0}, {"   ", 0}, {"l1", 1}, {"l99", 1}, {"b1", 1}, {"b99", 1}, {"g1", 1}, {"g30", 1},
        {"s1", 1}, {"s30", 1}, {"l05", 1}, {"l5g3b7s2", 4}, {"l5 5*g3", 6}, {"l12*g3", -2003}, {"l12 2*g3", 3},
        {"80*l1", 80}, {"81*l1", Due.FULL}, {"99*l1", Due.FULL}, {"8*(10*l1)", 80},
        {"80*l1g1", Due.FULL}, {"40*l1 40*g1 b1", Due.FULL}, {"79*l1g1", 80}, {"79*l1 2*g1", Due.FULL},
        {"9*(9*l1)", Due.FULL},
        {"01*l1", 1}, {"1*(l1)", 1}, {"(l1)", 1}, {"()", 0}, {"3*()", 0}, {"99*(99*(99*()))", 0},
        {"( ( ( ) ) )", 0}, {"(((l1)))", 1}, {"2*(2*(2*(2*l1)))", 16}, {"2*(l1 3*(g2) b4)g5", 11},
        {"()()()()()()()()()()()()()()()()()()()()()()()()()()()()()()()()()()()()()()()()", 0},
        {" 3 * l 5 ", 3}, {" 2 * ( l 5 g 3 ) ", 4}, {"99*(99*(99*(99*l99)))", Due.FULL},
        // the text ends too early
        {"l", -2001}, {"g ", -2002}, {"5", -2001}, {"5 ", -2002}, {"5*", -2002}, {"55 * ", -2005}, {"(", -2001},
        {"(l5", -2003}, {"((l5)", -2005}, {"(((", -2003}, {"l5(", -2003}, {"l5 5", -2004}, {"2*(l1 ", -2006},
        // bytes that cannot stand
        {"x", -2000}, {"L5", -2000}, {"*", -2000}, {"*l5", -2000}, {"lx", -2001}, {"l*5", -2001}, {"l(5)", -2001},
        {"ll5", -2001}, {"l5*", -2002}, {"l5x", -2002}, {"5l5", -2001}, {"5(l5)", -2001}, {"5**l5", -2002},
        {"5*5*l5", -2002}, {"5*)", -2002}, {")", -2000}, {"l5)", -2002}, {"())", -2002}, {"(3*)", -2003},
        {"(l)", -2002}, {"1 2*l3", -2002}, {"l\t5", -2001}, {"\tl5", -2000}, {"l5\n", -2002}, {"3 l5", -2002},
        {"l-5", -2001}, {"l5,l5", -2002}, {"5x", -2001},
        // numbers that are 0 or too great, and third digits
        {"l0", -2001}, {"l00", -2001}, {"l000", -2001}, {"l0x", -2001}, {"b0", -2001}, {"g0", -2001}, {"s0", -2001},
        {"0", -2000}, {"0*l5", -2000}, {"00*l5", -2000}, {"0x", -2000}, {"000*l5", -2000}, {"g31", -2001},
        {"s31", -2001}, {"g99", -2001}, {"g310", -2001}, {"g300", -2003}, {"g 31", -2002}, {"l100", -2003},
        {"l999", -2003}, {"l005", -2001}, {"b100", -2003}, {"100*l5", -2002}, {"010*l5", -2002}, {"l1000", -2003},
        {"l10 0*l5", -2004}, {"2*(g3 0", -2006}, {"g 3 1", -2005}, {"l5 0", -2003},
        // the fourth level
        {"((((", -2003}, {"(((3*(l5))))", -2005}, {"((( (l5))))", -2004}, {"((()(l5)))", 1}, {"(((l5)((l5))))", -2007},
        {"((l5)(l5)((l5)))", 3},
        // the fault comes before the limit, and the first fault counts
        {"81*l1x", -2005}, {"99*(99*l5)l0", -2011}, {"x l0", -2000}, {"l0 x", -2001}, {"81*l1(", -2006},
        {"99*l1 )", -2006},
    };

    public static void main(String[] args) {
        texts();
        order();
        limits();
        faultsChangeNothing();
        loadingBehindTakenItems();
        Due.end();
    }

    private static void texts() {
        for (Object[] row : TEXTS) {
            String text = (String) row[0];
            int due = (Integer) row[1];
            LabelApplicator x = new LabelApplicator();
            Due.be("load of <" + text + ">", Due.load(x, text), due);
            Due.be("items of <" + text + ">", x.count(0), Math.max(due, 0));
            Due.be("the text stays", x.count(23), text.length());
            Due.be("load again of <" + text + ">", x.load(), due <= 0 ? due : due > 40 ? Due.FULL : 2 * due);
        }
    }

    private static void order() {
        LabelApplicator x = Due.with("2*(l11 2*(g12)b98)s05 b1 3*l9");
        Due.webBe("order", x, new int[] {0, 11}, new int[] {1, 12}, new int[] {1, 12}, new int[] {2, 98},
                new int[] {0, 11}, new int[] {1, 12}, new int[] {1, 12}, new int[] {2, 98}, new int[] {3, 5},
                new int[] {2, 1}, new int[] {0, 9}, new int[] {0, 9}, new int[] {0, 9});
        Due.be("load behind", Due.load(x, "g30"), 14);
        Due.be("item(13, 0)", x.item(13, 0), 1);
        Due.be("item(13, 1)", x.item(13, 1), 30);
        Due.be("item(0, 1)", x.item(0, 1), 11);
    }

    private static void limits() {
        LabelApplicator x = Due.with("79*l1");
        Due.be("two more", Due.load(x, "2*g1"), Due.FULL);
        Due.be("none of them", x.count(0), 79);
        Due.be("one more", Due.load(x, "g1"), 80);
        Due.be("yet one more", x.load(), Due.FULL);
        Due.be("none more", Due.load(x, "()"), 80);
        Due.be("a fault when full", Due.load(x, "l1 l1 l"), -2007);
    }

    private static void faultsChangeNothing() {
        LabelApplicator y = new LabelApplicator();
        Due.be("too many", Due.load(y, "81*l1"), Due.FULL);
        Due.be("none of them", y.count(0), 0);
        Due.be("not too many", Due.load(y, "3*l1"), 3);
        Due.be("a fault", Due.load(y, "3*(l1"), -2005);
        Due.be("no fault", Due.load(y, "3*(l1)"), 6);
        LabelApplicator x = Due.with("l5");
        Due.be("a fault behind items", Due.load(x, "l6 g3 l0"), -2007);
        Due.be("as before", x.count(0), 1);
        Due.be("text as before", x.count(23), 8);
        x.run(1, 50);
        long before = x.digest();
        Due.be("again", x.load(), -2007);
        Due.be("too many", x.digest(), before);
    }

    private static void loadingBehindTakenItems() {
        LabelApplicator x = Due.with("40*(l47g3)");
        for (int i = 0; i < 30; i++) {
            Due.be("run", x.run(1, 50), 1);
            x.clear();
            Due.be("load", Due.load(x, i % 2 == 0 ? "l47g3" : "b47g3"), 80);
        }
        Due.be("item(18, 0)", x.item(18, 0), 0);
        Due.be("item(20, 0)", x.item(20, 0), 0);
        Due.be("item(22, 0)", x.item(22, 0), 2);
        Due.be("item(79, 2)", x.item(79, 2), 39 * 50 + 47);
        Due.be("load when full", x.load(), Due.FULL);
    }
}
