/** Promise 6, item. */
public final class P06ItemTest {
    public static void main(String[] args) {
        LabelApplicator x = Due.with("l47g3b20s30l99");
        Due.webBe("all kinds", x, new int[] {0, 47}, new int[] {1, 3}, new int[] {2, 20}, new int[] {3, 30},
                new int[] {0, 99});
        for (int what = 0; what <= 2; what++) {
            Due.be("item(-1, " + what + ")", x.item(-1, what), Due.BAD);
            Due.be("item(5, " + what + ")", x.item(5, what), Due.NONE);
            Due.be("item(80, " + what + ")", x.item(80, what), Due.NONE);
            Due.be("item of the least number", x.item(Integer.MIN_VALUE, what), Due.BAD);
            Due.be("item of the greatest number", x.item(Integer.MAX_VALUE, what), Due.NONE);
        }
        Due.be("item(0, -1)", x.item(0, -1), Due.BAD);
        Due.be("item(0, 3)", x.item(0, 3), Due.BAD);
        Due.be("item(5, 3)", x.item(5, 3), Due.BAD);
        Due.be("item(5, -1)", x.item(5, -1), Due.BAD);
        x.run(1, 50);
        Due.webBe("behind a cycle", x, new int[] {2, 20}, new int[] {3, 30}, new int[] {0, 99});
        Due.be("item(3, 0)", x.item(3, 0), Due.NONE);
        Due.be("item(-1, 0) again", x.item(-1, 0), Due.BAD);
        Due.be("80 items", Due.load(x, "77*g1"), 80);
        Due.be("item(79, 0)", x.item(79, 0), 1);
        Due.be("item(79, 2)", x.item(79, 2), 149 + 76);
        Due.be("item(80, 0)", x.item(80, 0), Due.NONE);
        Due.end();
    }
}
