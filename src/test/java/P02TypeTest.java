/** Promise 2, type. */
public final class P02TypeTest {
    public static void main(String[] args) {
        LabelApplicator x = new LabelApplicator();
        int[] wrong = {-1, 128, Integer.MIN_VALUE, Integer.MAX_VALUE, 256 + 108};
        for (int letter : wrong) {
            Due.be("type(" + letter + ")", x.type(letter), Due.BAD);
        }
        Due.be("count(23)", x.count(23), 0);
        Due.be("type(0)", x.type(0), 1);
        Due.be("type(127)", x.type(127), 2);
        for (int length = 3; length <= 80; length++) {
            Due.be("type of byte " + length, x.type('l'), length);
        }
        Due.be("type of byte 81", x.type('l'), Due.FULL);
        Due.be("wrong byte 81", x.type(128), Due.BAD);
        Due.be("count(23)", x.count(23), 80);
        Due.be("load() with byte 0 in front", x.load(), -2000);
        appendsInOrder();
        Due.end();
    }

    private static void appendsInOrder() {
        LabelApplicator x = new LabelApplicator();
        Due.be("load of l5", Due.load(x, "l5"), 1);
        Due.be("type(53)", x.type('g'), 3);
        Due.be("type(54)", x.type('6'), 4);
        Due.be("load of l5g6", x.load(), 3);
        Due.webBe("l5 and l5g6", x, new int[] {0, 5}, new int[] {0, 5}, new int[] {1, 6});
    }
}
