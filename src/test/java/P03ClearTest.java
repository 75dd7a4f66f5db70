/** Promise 3, clear. */
public final class P03ClearTest {
    public static void main(String[] args) {
        LabelApplicator x = new LabelApplicator();
        Due.be("clear() of nothing", x.clear(), 0);
        Due.be("load of l5", Due.load(x, "l5"), 1);
        Due.be("clear()", x.clear(), 2);
        Due.be("count(23)", x.count(23), 0);
        Due.be("clear() again", x.clear(), 0);
        Due.be("the web stays", x.count(0), 1);
        Due.be("load of nothing", x.load(), 1);
        Due.be("type behind clear()", x.type('g'), 1);
        Due.be("old bytes are gone", x.load(), -2001);
        for (int i = 1; i < 80; i++) {
            x.type('g');
        }
        Due.be("type when full", x.type('g'), Due.FULL);
        Due.be("clear() when full", x.clear(), 80);
        Due.be("type behind it", x.type('g'), 1);
        Due.end();
    }
}
