import java.util.ArrayList;
import java.util.List;

/** Compares long runs of calls, and all short texts, with a second applicator. */
public final class ModelTest {
    private static final String[] OFTEN = {"run", "run", "run", "run", "run", "run", "set", "set", "setPitch", "latest",
        "clearFaults", "clearFaults", "digest", "pitch", "count", "station", "item", "foretell", "foretell", "best",
        "save", "restore", "setRing"};
    private static final int[] LEAST = {1, 0, 10, 1, 1, 0, 0, 1};
    private static final int[] GREATEST = {30, 50, 400, 1000, 1000, 100, 8, 9};
    private static final int[] FIRST = {3, 5, 150, 400, 100, 10, 2, 3};

    private static long seed;

    public static void main(String[] args) {
        for (int run = 0; run < 600; run++) {
            seed = run;
            compareRun(run);
        }
        compareTexts();
        Due.end();
    }

    private static int below(int bound) {
        seed = seed * 6364136223846793005L + 1442695040888963407L;
        return (int) ((seed >>> 33) % bound);
    }

    private static void compareRun(int run) {
        LabelApplicator x = new LabelApplicator();
        Model model = new Model();
        int calls = 0;
        while (calls < 420) {
            if (below(60) == 0) {
                compare(run, x, model, "unload", 0, 0, 0);
                calls++;
            } else if (below(8) == 0) {
                String text = below(2) == 0 ? text() : roll();
                compare(run, x, model, "clear", 0, 0, 0);
                for (int i = 0; i < text.length(); i++) {
                    compare(run, x, model, "type", text.charAt(i), 0, 0);
                }
                compare(run, x, model, "load", 0, 0, 0);
                calls += text.length() + 2;
            } else {
                String name = OFTEN[below(OFTEN.length)];
                int[] a = arguments(name);
                compare(run, x, model, name, a[0], a[1], a[2]);
                calls++;
            }
        }
        compare(run, x, model, "digest", 0, 0, 0);
    }

    private static int[] arguments(String name) {
        int speed = below(20) == 0 ? below(1004) - 1 : 10 * (10 + below(4));
        int products = below(40) == 0 ? below(103) : 1 + below(4);
        switch (name) {
            case "run": return new int[] {products, speed, 0};
            case "foretell": return new int[] {products + below(20), speed, below(40) == 0 ? below(6) - 1 : below(4)};
            case "best": return new int[] {below(10) == 0 ? below(9) - 1 : new int[] {0, 1, 5}[below(3)], products, speed};
            case "set": return settingAndValue();
            case "setPitch": return new int[] {below(10) == 0 ? below(2010) : 460 + below(80), 0, 0};
            case "setRing": return new int[] {below(13) - 1, 0, 0};
            case "item": return new int[] {below(20) == 0 ? below(90) - 3 : below(30), below(20) == 0 ? below(5) - 1 : below(3), 0};
            case "latest": return new int[] {below(8) - 1, 0, 0};
            case "station": return new int[] {below(13) - 1, 0, 0};
            case "count": return new int[] {below(34) - 1, 0, 0};
            default: return new int[] {below(20) == 0 ? below(4) - 1 : below(2), 0, 0};
        }
    }

    private static int[] settingAndValue() {
        int what = below(30) == 0 ? below(10) - 1 : below(8);
        if (what < 0 || what > 7) {
            return new int[] {what, below(10), 0};
        }
        int range = GREATEST[what] - LEAST[what] + 1;
        int value = below(4) == 0 ? LEAST[what] - 2 + below(range + 4) : FIRST[what] + below(range / 8 + 2);
        return new int[] {what, value, 0};
    }

    /** Labels as they mostly are, so that many products are good. */
    private static String roll() {
        StringBuilder text = new StringBuilder();
        for (int parts = 1 + below(3); parts > 0; parts--) {
            text.append(1 + below(9)).append("*(").append(below(8) == 0 ? "b" : "l").append(40 + below(14));
            text.append('g').append(2 + below(4)).append(')');
            if (below(4) == 0) {
                text.append("s3 b9 l9 l44g3 g9 b99 ", 0, 3 * (1 + below(7)));
            }
        }
        return text.toString();
    }

    private static String text() {
        StringBuilder text = new StringBuilder();
        for (int parts = 1 + below(4); parts > 0; parts--) {
            part(text, 0);
        }
        if (below(8) == 0) {
            text.insert(below(text.length() + 1), "lgbs0139*() x".charAt(below(13)));
        }
        if (below(12) == 0) {
            text.deleteCharAt(below(text.length()));
        }
        return text.toString();
    }

    private static void part(StringBuilder text, int depth) {
        blank(text);
        if (below(3) == 0) {
            text.append(1 + below(6));
            blank(text);
            text.append('*');
            blank(text);
        }
        if (below(3) == 0 && depth < 3) {
            text.append('(');
            for (int parts = below(3); parts > 0; parts--) {
                part(text, depth + 1);
            }
            text.append(')');
        } else if (below(3) > 0) {
            text.append(below(5) == 0 ? 'b' : 'l').append(20 + below(30)).append('g').append(1 + below(8));
        } else {
            text.append("lgbs".charAt(below(4))).append(1 + below(30));
        }
        blank(text);
    }

    private static void blank(StringBuilder text) {
        if (below(6) == 0) {
            text.append(' ');
        }
    }

    private static void compare(int run, LabelApplicator x, Model model, String name, int a, int b, int c) {
        Due.be("run " + run + ": " + name + "(" + a + ", " + b + ", " + c + ")", call(x, name, a, b, c),
                model.call(name, a, b, c));
    }

    private static long call(LabelApplicator x, String name, int a, int b, int c) {
        switch (name) {
            case "type": return x.type(a);
            case "clear": return x.clear();
            case "load": return x.load();
            case "unload": return x.unload();
            case "item": return x.item(a, b);
            case "set": return x.set(a, b);
            case "setPitch": return x.setPitch(a);
            case "setRing": return x.setRing(a);
            case "run": return x.run(a, b);
            case "clearFaults": return x.clearFaults();
            case "latest": return x.latest(a);
            case "station": return x.station(a);
            case "pitch": return x.pitch();
            case "foretell": return x.foretell(a, b, c);
            case "best": return x.best(a, b, c);
            case "save": return x.save(a);
            case "restore": return x.restore(a);
            case "count": return x.count(a);
            default: return x.digest();
        }
    }

    /** All texts of up to five of these bytes, then many longer ones. */
    private static void compareTexts() {
        String bytes = "lg013*() x";
        int texts = 1;
        for (int length = 0; length <= 5; length++) {
            for (int number = 0; number < texts; number++) {
                StringBuilder text = new StringBuilder();
                for (int rest = number, i = 0; i < length; i++, rest /= bytes.length()) {
                    text.append(bytes.charAt(rest % bytes.length()));
                }
                compareText(text.toString());
            }
            texts *= bytes.length();
        }
        for (int i = 0; i < 100000; i++) {
            StringBuilder text = new StringBuilder();
            for (int length = 6 + below(8); length > 0; length--) {
                text.append("l1g3(5)*2 l1(0)s".charAt(below(16)));
            }
            compareText(text.toString());
        }
    }

    private static void compareText(String text) {
        List<int[]> items = new ArrayList<>();
        int fault = Model.read(text, items);
        LabelApplicator x = new LabelApplicator();
        for (int i = 0; i < text.length(); i++) {
            x.type(text.charAt(i));
        }
        int due = fault >= 0 ? -2000 - fault : items.size() > 80 ? Due.FULL : items.size();
        Due.be("load of <" + text + ">", x.load(), due);
        for (int i = 0; i < due; i++) {
            Due.be("kind " + i + " of <" + text + ">", x.item(i, 0), items.get(i)[0]);
            Due.be("length " + i + " of <" + text + ">", x.item(i, 1), items.get(i)[1]);
        }
    }
}
