/** The sentences of the document on the web and on texts that name an edge, a method each. */
public final class S2WebAndTextTest {
    public static void main(String[] args) {
        eightyItems();
        numberedFromTheFront();
        lengths();
        eightyBytes();
        zeroTimesOrMore();
        atMostOnce();
        threeDeep();
        kinds();
        oneOrTwoDigits();
        notZero();
        noThirdDigit();
        gapsAndSplices();
        repeated();
        blanks();
        firstByteThatCannotStand();
        zeroOrTooGreat();
        fourthLevel();
        endsTooEarly();
        theLeastIndexCounts();
        Due.end();
    }

    private static void reads(String text, int due) {
        LabelApplicator x = new LabelApplicator();
        Due.be("load of <" + text + ">", Due.load(x, text), due);
        Due.be("items of <" + text + ">", x.count(0), due < 0 ? 0 : due);
    }

    private static void fault(String text, int index) {
        reads(text, -2000 - index);
    }

    private static String blanksAnd(int blanks, String text) {
        return " ".repeat(blanks) + text;
    }

    private static void eightyItems() {
        Due.sentence("It consists of at most 80 items");
        reads("79*l1", 79);
        reads("80*l1", 80);
        reads("81*l1", Due.FULL);
        reads("2*(40*l1)", 80);
        reads("3*(27*l1)", Due.FULL);
        reads("40*(l1g1)", 80);
        reads("40*(l1g1)l1", Due.FULL);
        reads("99*(99*(99*(99*l1)))", Due.FULL);
        LabelApplicator x = Due.with("40*(l47g3)");
        Due.be("one more", Due.load(x, "s9"), Due.FULL);
        x.run(1, 0);
        Due.be("one more", Due.load(x, "s9"), 79);
        Due.be("one more", x.load(), 80);
        Due.be("one more", x.load(), Due.FULL);
        Due.be("the last", x.item(79, 0), 3);
        Due.be("none behind it", x.item(80, 0), Due.NONE);
    }

    private static void numberedFromTheFront() {
        Due.sentence("numbered from 0 at the front");
        LabelApplicator x = Due.with("l47g3b9");
        Due.webBe("loaded", x, new int[] {0, 47}, new int[] {1, 3}, new int[] {2, 9});
        x.run(1, 0);
        Due.webBe("one product came", x, new int[] {2, 9});
    }

    private static void lengths() {
        Due.sentence("Labels and blanks are 1 to 99 long, gaps and splices 1 to 30.");
        LabelApplicator x = Due.with("l1l99b1b99g1g30s1s30");
        Due.webBe("edges", x, new int[] {0, 1}, new int[] {0, 99}, new int[] {2, 1}, new int[] {2, 99},
                new int[] {1, 1}, new int[] {1, 30}, new int[] {3, 1}, new int[] {3, 30});
        String[] wrong = {"l0", "b0", "g0", "s0", "g31", "s31"};
        for (String text : wrong) {
            fault(text, 1);
        }
        fault("l100", 3);
        fault("b100", 3);
    }

    private static void eightyBytes() {
        Due.sentence("There is a text of at most 80 bytes, from which items are read");
        reads("l1".repeat(40), 40);
        reads("s1".repeat(39) + "b9", 40);
        reads(blanksAnd(78, "l7"), 1);
        reads(blanksAnd(80, ""), 0);
        reads("()".repeat(40), 0);
        fault(blanksAnd(79, "x"), 79);
        fault("l1".repeat(39) + "l0", 79);
        fault("l1".repeat(39) + "lx", 79);
        fault(blanksAnd(79, "l"), 80);
        fault("l1".repeat(39) + "l ", 80);
        LabelApplicator x = new LabelApplicator();
        Due.type(x, "l1".repeat(40));
        Due.be("the 81st byte", x.type('1'), Due.FULL);
        Due.be("is not read", x.load(), 40);
        Due.be("the last length", x.item(39, 1), 1);
    }

    private static void zeroTimesOrMore() {
        Due.sentence("Braces mean repetition, zero times or more");
        reads("", 0);
        reads(" ", 0);
        reads("l5", 1);
        reads("l5l5", 2);
        reads("l5l5l5", 3);
        reads("()", 0);
        reads("(l5)", 1);
        reads("(l5l5)", 2);
        reads("(()())", 0);
        reads("99*()", 0);
        LabelApplicator x = Due.with("l5");
        Due.be("no part behind one item", Due.load(x, "()"), 1);
    }

    private static void atMostOnce() {
        Due.sentence("brackets at most once");
        reads("l5", 1);
        reads("2*l5", 2);
        fault("2*2*l5", 2);
        fault("2*2*(l5)", 2);
        reads("2*(2*l5)", 4);
    }

    private static void threeDeep() {
        Due.sentence("the parentheses of parts are nested at most 3 deep");
        reads("(l5)", 1);
        reads("((l5))", 1);
        reads("(((l5)))", 1);
        fault("((((l5))))", 3);
        reads("((()))", 0);
        fault("(((())))", 3);
        reads("((())())(((l5))((l5)))((()))", 2);
        reads("2*(2*(2*(2*l5)))", 16);
    }

    private static void kinds() {
        Due.sentence("The letters stand for labels, gaps, blanks and splices.");
        Due.webBe("kinds", Due.with("l9g9b9s9"), new int[] {0, 9}, new int[] {1, 9}, new int[] {2, 9}, new int[] {3, 9});
        String others = "LGBSacfhkmrt";
        for (int i = 0; i < others.length(); i++) {
            fault(others.charAt(i) + "9", 0);
        }
    }

    private static void oneOrTwoDigits() {
        Due.sentence("Times and lengths are numbers of one or two digits, as many as there are");
        Due.webBe("lengths", Due.with("l5l50l05l55l10"), new int[] {0, 5}, new int[] {0, 50}, new int[] {0, 5},
                new int[] {0, 55}, new int[] {0, 10});
        reads("5*l1", 5);
        reads("50*l1", 50);
        reads("05*l1", 5);
        reads("55*l1", 55);
        reads("10*l1", 10);
        fault("lx", 1);
        fault("l12*g3", 3);
        reads("l12 2*g3", 3);
    }

    private static void notZero() {
        Due.sentence("and not 0 (05 is 5");
        fault("l0", 1);
        fault("l00", 1);
        reads("l01", 1);
        reads("l1", 1);
        fault("0*l5", 0);
        fault("00*l5", 0);
        reads("01*l5", 1);
        reads("1*l5", 1);
        fault("0*()", 0);
        reads("1*()", 0);
    }

    private static void noThirdDigit() {
        Due.sentence("a third digit cannot stand");
        fault("l100", 3);
        fault("l990", 3);
        fault("l055", 3);
        fault("l1000", 3);
        fault("g300", 3);
        fault("g010", 3);
        fault("s001", 1);
        fault("100*l5", 2);
        fault("100", 2);
        fault("055*l5", 2);
        fault("l100*l5", 3);
    }

    private static void gapsAndSplices() {
        Due.sentence("for gaps and splices at most 30");
        reads("g30", 1);
        fault("g31", 1);
        reads("s30", 1);
        fault("s31", 1);
        reads("l31", 1);
        reads("b31", 1);
        reads("31*g1", 31);
        reads("31*s1", 31);
    }

    private static void repeated() {
        Due.sentence("What stands in the parentheses, or the item, is repeated as often as told.");
        Due.webBe("1*l5", Due.with("1*l5"), new int[] {0, 5});
        Due.webBe("2*l5g3", Due.with("2*l5g3"), new int[] {0, 5}, new int[] {0, 5}, new int[] {1, 3});
        Due.webBe("2*(l5g3)", Due.with("2*(l5g3)"), new int[] {0, 5}, new int[] {1, 3}, new int[] {0, 5},
                new int[] {1, 3});
        Due.webBe("b9 2*(l5 2*g3) s2", Due.with("b9 2*(l5 2*g3) s2"), new int[] {2, 9}, new int[] {0, 5},
                new int[] {1, 3}, new int[] {1, 3}, new int[] {0, 5}, new int[] {1, 3}, new int[] {1, 3},
                new int[] {3, 2});
        reads("(l5g3)", 2);
        reads("79*l1", 79);
        reads("99*l1", Due.FULL);
        reads("99*(99*(99*()))l1", 1);
    }

    private static void blanks() {
        Due.sentence("Blanks (byte 32) can stand before and after letters, numbers and signs.");
        reads("  2  *  (  l  5  g  30  )  ", 4);
        reads("l 5", 1);
        reads(" ( ( ( l05 ) ) ) ", 1);
        fault("1 2*l5", 2);
        fault("l1 2", 4);
        fault("l1 2g3", 4);
        int[] others = {0, 9, 10, 13, 31, 33, 127};
        for (int letter : others) {
            fault((char) letter + "l5", 0);
            fault("l" + (char) letter + "5", 1);
            fault("l5" + (char) letter, 2);
            fault("2" + (char) letter + "*l5", 1);
        }
    }

    private static void firstByteThatCannotStand() {
        Due.sentence("The fault of a text is the index, from 0, of the first byte that cannot stand at its place");
        String[] atFirst = {")", "*", "x", "*l5", ")l5"};
        for (String text : atFirst) {
            fault(text, 0);
        }
        String[] behindTimes = {"2l5", "2(l5)", "2)", "2x", "2g"};
        for (String text : behindTimes) {
            fault(text, 1);
        }
        String[] behindStar = {"2**l5", "2*2", "2*)", "2*x", "2*0"};
        for (String text : behindStar) {
            fault(text, 2);
        }
        String[] behindLetter = {"ll5", "l(5)", "l)", "l*5", "lx", "l-5"};
        for (String text : behindLetter) {
            fault(text, 1);
        }
        String[] behindLength = {"l5*", "l5x", "l5)", "l5,l5", "l5*2"};
        for (String text : behindLength) {
            fault(text, 2);
        }
        String[] inParentheses = {"(*", "(x", "(,)"};
        for (String text : inParentheses) {
            fault(text, 1);
        }
        String[] behindParentheses = {"()*2", "())", "()x"};
        for (String text : behindParentheses) {
            fault(text, 2);
        }
    }

    private static void zeroOrTooGreat() {
        Due.sentence("for a number that is 0 or too great it is that of its first digit, whatever follows, also if the"
                + " text ends behind it");
        String[] times = {"0", "00", "0 ", "0*", "0*l5", "00*l5", "0x", "0l5", "000", "0)"};
        for (String text : times) {
            fault(text, 0);
        }
        String[] lengths = {"l0", "l00", "l0 ", "l0x", "l00x", "l000", "l005", "l0*", "l0)", "b0", "b00(", "g31", "g99",
            "g31x", "g310", "g31 ", "s31*", "s99)", "s0", "g0"};
        for (String text : lengths) {
            fault(text, 1);
        }
        fault("l  00", 3);
        fault("2*g31", 3);
        fault("2 * 0", 4);
        fault("l5 00", 3);
        fault("(g 31)", 3);
    }

    private static void fourthLevel() {
        Due.sentence("for the parenthesis of a fourth level that of the parenthesis");
        fault("((((", 3);
        fault("((((((", 3);
        fault("(( ( (", 5);
        fault("(((l5(", 5);
        fault("(((2*(l5", 5);
        fault("(((2 * (", 7);
        fault("((()((", 5);
        fault("((())(((", 7);
        fault("(((()", 3);
    }

    private static void endsTooEarly() {
        Due.sentence("it is the length of the text if the text ends too early");
        String[] texts = {"l", "g ", "b  ", "5", "55", "5 ", "5*", "5 * ", "(", "(((", "(l5", "((l5)", "(((l5))", "l5(",
            "l5 5", "2*(l5", "2*(3*", "(l5 ", "()(", "(5", "(l"};
        for (String text : texts) {
            fault(text, text.length());
        }
        fault(blanksAnd(79, "5"), 80);
        fault(blanksAnd(79, "("), 80);
    }

    private static void theLeastIndexCounts() {
        Due.sentence("If a text has several faults, the one with the least index counts.");
        fault("l0g31", 1);
        fault("x)", 0);
        fault("l5)l0", 2);
        fault("l5l0)", 3);
        fault("(l0", 2);
        fault("(((l0(", 4);
        fault("((((l0", 3);
        fault("(x", 1);
        fault("l5 x (", 3);
        fault("0 0 0", 0);
        fault("g300 g31", 3);
        fault("g31 g300", 1);
    }
}
