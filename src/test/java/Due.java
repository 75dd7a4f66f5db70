import java.util.function.IntSupplier;
import java.util.function.IntUnaryOperator;

/** What the tests share: comparing an answer with the one that is due, and making applicators with webs. */
final class Due {
    static final int NONE = -1, BAD = -2, STATE = -3, FULL = -4;

    private static int wrong = 0;
    private static String sentence = "";

    private Due() {
    }

    /** Tells the sentence of the document that is tested from here on, so that a wrong answer names it. */
    static void sentence(String words) {
        sentence = "<" + words + "> ";
    }

    static void be(String call, long got, long want) {
        if (got != want) {
            wrong++;
            System.out.println(sentence + call + " answered " + got + ", due is " + want);
        }
    }

    /** An argument can be from the least to the greatest number, and nothing else. */
    static void range(String call, int least, int greatest, IntUnaryOperator answer) {
        int[] outside = {least - 1, greatest + 1, Integer.MIN_VALUE, Integer.MAX_VALUE};
        for (int value : outside) {
            be(call + " with " + value, answer.applyAsInt(value), BAD);
        }
        be(call + " with " + least + " is BAD", answer.applyAsInt(least) == BAD ? 1 : 0, 0);
        be(call + " with " + greatest + " is BAD", answer.applyAsInt(greatest) == BAD ? 1 : 0, 0);
    }

    /** A call that returns an error, and changes nothing. */
    static void refused(LabelApplicator x, String call, int error, IntSupplier answer) {
        long before = x.digest();
        be(call, answer.getAsInt(), error);
        be("digest() behind " + call, x.digest(), before);
    }

    /** One product that comes with a speed, and the numbers of its cycle. */
    static void cycle(LabelApplicator x, int speed, int... latest) {
        be("run(1, " + speed + ")", x.run(1, speed), 1);
        latestBe("run(1, " + speed + ")", x, latest);
    }

    static void end() {
        if (wrong != 0) {
            System.out.println(wrong + " answers are not as due");
            System.exit(1);
        }
    }

    static void type(LabelApplicator x, String text) {
        for (int i = 0; i < text.length(); i++) {
            be("type of a byte of " + text, x.type(text.charAt(i)), i + 1);
        }
    }

    /** Puts a text in place of the one that was there, and loads it. */
    static int load(LabelApplicator x, String text) {
        x.clear();
        type(x, text);
        return x.load();
    }

    static LabelApplicator with(String web) {
        LabelApplicator x = new LabelApplicator();
        int items = load(x, web);
        be("load of " + web + " fails", items < 0 ? items : 0, 0);
        return x;
    }

    static void latestBe(String what, LabelApplicator x, int... numbers) {
        for (int i = 0; i < numbers.length; i++) {
            be(what + ": latest(" + i + ")", x.latest(i), numbers[i]);
        }
    }

    static void countsBe(String what, LabelApplicator x, int from, int... numbers) {
        for (int i = 0; i < numbers.length; i++) {
            be(what + ": count(" + (from + i) + ")", x.count(from + i), numbers[i]);
        }
    }

    static void webBe(String what, LabelApplicator x, int[]... kindsAndLengths) {
        be(what + ": items", x.count(0), kindsAndLengths.length);
        int ahead = 0;
        for (int i = 0; i < kindsAndLengths.length; i++) {
            be(what + ": item(" + i + ", 0)", x.item(i, 0), kindsAndLengths[i][0]);
            be(what + ": item(" + i + ", 1)", x.item(i, 1), kindsAndLengths[i][1]);
            be(what + ": item(" + i + ", 2)", x.item(i, 2), ahead);
            ahead += kindsAndLengths[i][1];
        }
    }
}
