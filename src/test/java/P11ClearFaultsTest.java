/** Promise 11, clearFaults. */
public final class P11ClearFaultsTest {
    public static void main(String[] args) {
        LabelApplicator x = new LabelApplicator();
        Due.be("clearFaults() at first", x.clearFaults(), 0);
        x.run(2, 0);
        Due.be("clearFaults() of two", x.clearFaults(), 2);
        Due.be("count(13)", x.count(13), 0);
        Due.be("run behind it", x.run(10, 0), 3);
        Due.be("stopped", x.count(14), 1);
        Due.be("clearFaults() of three", x.clearFaults(), 3);
        Due.countsBe("it goes on", x, 13, 0, 0);
        Due.be("again", x.clearFaults(), 0);
        Due.be("run goes on", x.run(10, 0), 3);
        Due.be("the counts stay", x.count(25), 8);
        Due.be("the latest cycle stays", x.latest(5), 3);
        Due.end();
    }
}
