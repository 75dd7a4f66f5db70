/** Promise 15, foretell. */
public final class P15ForetellTest {
    public static void main(String[] args) {
        wrongInputs();
        numbers();
        faultsSoFar();
        nothingChanges();
        asRunDoes();
        Due.end();
    }

    private static void wrongInputs() {
        LabelApplicator x = Due.with("l47g3");
        int[][] wrong = {{0, 1, 0}, {-1, 1, 0}, {101, 1, 0}, {1, -1, 0}, {1, 1001, 0}, {1, 1, -1}, {1, 1, 4},
            {Integer.MIN_VALUE, 1, 1}, {Integer.MAX_VALUE, 1, 1}, {1, Integer.MIN_VALUE, 1},
            {1, Integer.MAX_VALUE, 1}, {1, 1, Integer.MIN_VALUE}, {1, 1, Integer.MAX_VALUE}};
        for (int[] row : wrong) {
            Due.be("foretell(" + row[0] + ", " + row[1] + ", " + row[2] + ")",
                    x.foretell(row[0], row[1], row[2]), Due.BAD);
        }
        Due.be("foretell(1, 0, 0)", x.foretell(1, 0, 0), 1);
        Due.be("foretell(100, 0, 0)", x.foretell(100, 0, 0), 1);
        Due.be("foretell(100, 1000, 0)", x.foretell(100, 1000, 0), 0);
    }

    private static void foretells(LabelApplicator x, int products, int speed, int... due) {
        for (int what = 0; what < due.length; what++) {
            Due.be("foretell(" + products + ", " + speed + ", " + what + ")",
                    x.foretell(products, speed, what), due[what]);
        }
    }

    private static void numbers() {
        LabelApplicator x = Due.with("l47g3 l20l27g3 b47g3 b47g3 l53g3 l47g3 s3l44g3");
        foretells(x, 1, 50, 1, 0, 14, Due.NONE);
        foretells(x, 2, 50, 1, 2, 11, Due.NONE);
        foretells(x, 3, 50, 1, 2, 9, Due.NONE);
        foretells(x, 4, 50, 1, 2, 7, Due.NONE);
        foretells(x, 5, 50, 1, 3, 5, 5);
        foretells(x, 6, 50, 2, 3, 3, 5);
        foretells(x, 7, 50, 2, 4, 0, 5);
        foretells(x, 100, 50, 2, 4, 0, 5);
        foretells(x, 7, 300, 1, 5, 0, 5);
        x.set(7, 4);
        foretells(x, 10, 50, 2, 4, 0, Due.NONE);
        foretells(x, 11, 50, 2, 4, 0, 11);
        foretells(x, 100, 50, 2, 4, 0, 11);
    }

    private static void faultsSoFar() {
        LabelApplicator x = Due.with("l47g3");
        x.unload();
        x.run(2, 0);
        foretells(x, 1, 0, 0, 0, 0, 1);
        x.set(7, 1);
        foretells(x, 1, 0, 0, 0, 0, 1);
        x.load();
        foretells(x, 1, 0, 1, 0, 0, Due.NONE);
        foretells(x, 2, 0, 1, 0, 0, 2);
        x.set(7, 4);
        foretells(x, 4, 0, 1, 0, 0, Due.NONE);
        foretells(x, 5, 0, 1, 0, 0, 5);
        x.unload();
        foretells(x, 1, 0, 0, 0, 0, Due.NONE);
        foretells(x, 2, 0, 0, 0, 0, 2);
        x.run(2, 0);
        Due.be("stopped", x.count(14), 1);
        foretells(x, 1, 0, 0, 0, 0, 1);
        x.load();
        foretells(x, 1, 0, 1, 0, 0, Due.NONE);
        foretells(x, 100, 0, 1, 0, 0, 5);
        Due.be("still stopped", x.run(1, 0), Due.STATE);
    }

    private static void nothingChanges() {
        LabelApplicator x = Due.with("10*(l45g3)");
        x.run(3, 120);
        x.save(0);
        for (int what = 0; what < 4; what++) {
            int pitch = x.pitch();
            long before = x.digest();
            x.foretell(100, 1000, what);
            Due.be("digest behind foretell", x.digest(), before);
            Due.be("pitch", x.pitch(), pitch);
            Due.be("restore", x.restore(0), 14);
            Due.be("digest behind restore", x.digest(), before);
        }
    }

    /** With patience enough, foretell and run tell the same. */
    private static void asRunDoes() {
        for (int products = 1; products <= 12; products++) {
            LabelApplicator x = Due.with("5*(l44g3) l20l27g3 4*(l42g3) 2*(b47g3) l53g3 6*(l47g4) s30l5g2");
            x.set(7, 9);
            int good = x.foretell(products, 150, 0);
            int rejected = x.foretell(products, 150, 1);
            int left = x.foretell(products, 150, 2);
            Due.be("run", x.run(products, 150), products);
            Due.be("good of " + products, good, x.count(24));
            Due.be("rejected of " + products, rejected, x.count(10));
            Due.be("left of " + products, left, x.count(0));
        }
        LabelApplicator y = Due.with("2*(l20l27g3) 2*(l47g3) l20l27g3");
        y.run(3, 50);
        Due.countsBe("so far", y, 9, 1, 4);
        foretells(y, 2, 50, 1, 2, 0, Due.NONE);
    }
}
