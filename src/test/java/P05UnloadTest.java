/** Promise 5, unload. */
public final class P05UnloadTest {
    public static void main(String[] args) {
        LabelApplicator x = new LabelApplicator();
        Due.be("unload() of nothing", x.unload(), 0);
        Due.be("load", Due.load(x, "3*(l47g3)"), 6);
        x.run(1, 50);
        Due.be("unload()", x.unload(), 4);
        Due.countsBe("unloaded", x, 0, 0, 0, 0);
        Due.be("item(0, 0)", x.item(0, 0), Due.NONE);
        Due.be("unload() again", x.unload(), 0);
        Due.be("the latest cycle stays", x.latest(0), 50);
        Due.be("the text stays", x.load(), 6);
        Due.be("unload() of all", x.unload(), 6);
        Due.be("80 items fit", Due.load(x, "80*b7"), 80);
        Due.be("item(79, 2)", x.item(79, 2), 79 * 7);
        Due.end();
    }
}
