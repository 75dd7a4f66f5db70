/** Promise 20, digest. */
public final class P20DigestTest {
    public static void main(String[] args) {
        newObject();
        LabelApplicator x = new LabelApplicator();
        same(x, "");
        same(x, " l 5 ");
        same(x, "4*(l46g3) s3 b9 l99");
        x.run(2, 120);
        same(x, "x");
        x.set(7, 9);
        x.run(9, 300);
        same(x, "7*(l47g3)");
        x.setRing(10);
        x.setPitch(501);
        x.run(9, 77);
        same(x, "2*l");
        x.type(0);
        x.type(127);
        Due.be("digest() with other bytes", x.digest(), hashOf(x, "2*l" + (char) 0 + (char) 127));
        Due.be("digest() again", x.digest(), x.digest());
        foretold();
        Due.end();
    }

    private static void newObject() {
        int[] numbers = {0, 0, 0, 0, 4, 0, 0, 0, 0, 0, 0, 0, 0, 0, 0, 3, 5, 150, 400, 100, 10, 2, 3, 0,
            0, 0, 0, 0, 0, 0, 0, 0, 1112014848, -1, -1, -1, -1, -1, -1, -1, -1, -1, -1, 0, 0, 0, 3};
        long hash = 743;
        for (int number : numbers) {
            hash = 31 * hash + number;
        }
        Due.be("digest() of a new object", new LabelApplicator().digest(), hash);
    }

    /** Webs and settings with which other products or speeds than those of the document would show. */
    private static void foretold() {
        LabelApplicator x = new LabelApplicator();
        x.set(4, 1000);
        same(x, "20*(l47g3)");
        same(x, "9*(b47g3)");
        x.unload();
        x.set(5, 0);
        x.set(4, 299);
        same(x, "4*(l47g3)");
        x.set(4, 300);
        same(x, "l47g3");
    }

    private static void same(LabelApplicator x, String text) {
        Due.load(x, text);
        Due.be("digest() with " + text, x.digest(), hashOf(x, text));
    }

    private static long hashOf(LabelApplicator x, String text) {
        long hash = 743;
        for (int what = 0; what < 32; what++) {
            hash = 31 * hash + x.count(what);
        }
        for (int i = 0; i < x.count(0); i++) {
            hash = 31 * hash + x.item(i, 0);
            hash = 31 * hash + x.item(i, 1);
            hash = 31 * hash + x.item(i, 2);
        }
        hash = 31 * hash + x.pitch();
        for (int i = 0; i < x.count(4); i++) {
            hash = 31 * hash + x.station(i);
        }
        for (int what = 0; what < 6; what++) {
            hash = 31 * hash + x.latest(what);
        }
        for (int what = 0; what < 4; what++) {
            hash = 31 * hash + x.foretell(20, 300, what);
        }
        for (int i = 0; i < text.length(); i++) {
            hash = 31 * hash + text.charAt(i);
        }
        return hash;
    }
}
