/** Promise 17, save. */
public final class P17SaveTest {
    public static void main(String[] args) {
        LabelApplicator x = Due.with("4*(l47g3)");
        int[] wrong = {-1, 2, Integer.MIN_VALUE, Integer.MAX_VALUE};
        for (int slot : wrong) {
            Due.be("save(" + slot + ")", x.save(slot), Due.BAD);
        }
        Due.be("nothing was saved in 0", x.restore(0), Due.STATE);
        Due.be("nothing was saved in 1", x.restore(1), Due.STATE);
        long before = x.digest();
        Due.be("save(0)", x.save(0), 8);
        Due.be("saving changes nothing", x.digest(), before);
        Due.be("nor saves in 1", x.restore(1), Due.STATE);
        x.run(1, 50);
        Due.be("save(1)", x.save(1), 6);
        x.run(1, 50);
        Due.be("restore(0)", x.restore(0), 8);
        Due.be("count(6)", x.count(6), 0);
        Due.be("restore(1)", x.restore(1), 6);
        Due.be("count(6)", x.count(6), 1);
        x.run(2, 50);
        Due.be("save(0) in place of the other", x.save(0), 2);
        x.restore(1);
        Due.be("restore(0)", x.restore(0), 2);
        Due.be("count(6)", x.count(6), 3);
        Due.be("the longer web is gone", x.item(2, 0), Due.NONE);
        x.unload();
        Due.be("save(1) of no web", x.save(1), 0);
        Due.end();
    }
}
