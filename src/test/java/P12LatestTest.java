/** Promise 12, latest. */
public final class P12LatestTest {
    public static void main(String[] args) {
        LabelApplicator x = Due.with("l40s4l3g3 l47g3 b99b52");
        int[] wrong = {-1, 6, Integer.MIN_VALUE, Integer.MAX_VALUE};
        for (int what : wrong) {
            Due.be("latest(" + what + ") before a cycle", x.latest(what), Due.BAD);
        }
        Due.latestBe("before a cycle", x, Due.NONE, Due.NONE, Due.NONE, Due.NONE, Due.NONE, Due.NONE);
        x.run(1, 300);
        Due.latestBe("a splice", x, 50, 2, 3, 100, 4, 1);
        x.run(1, 300);
        Due.latestBe("too slow", x, 50, 1, 7, 200, 2, 1);
        x.run(1, 250);
        Due.latestBe("lost", x, 151, 0, 2, 250, 2, 2);
        x.run(1, 0);
        Due.latestBe("empty", x, 0, 0, 1, 150, 0, 3);
        for (int what : wrong) {
            Due.be("latest(" + what + ")", x.latest(what), Due.BAD);
        }
        x.load();
        x.clearFaults();
        x.setRing(3);
        x.unload();
        Due.latestBe("other calls change nothing", x, 0, 0, 1, 150, 0, 3);
        x.foretell(5, 300, 0);
        Due.latestBe("nor what would be", x, 0, 0, 1, 150, 0, 3);
        Due.end();
    }
}
