/** Promise 14, pitch. */
public final class P14PitchTest {
    public static void main(String[] args) {
        LabelApplicator x = new LabelApplicator();
        Due.be("pitch() at first", x.pitch(), 1112014848);
        x.setPitch(10);
        Due.be("pitch() of 1", x.pitch(), 1065353216);
        x.setPitch(2000);
        Due.be("pitch() of 200", x.pitch(), 1128792064);
        x.setPitch(333);
        Due.be("pitch() of 33.3", x.pitch(), Float.floatToIntBits(33.3f));
        Due.be("pitch() again", x.pitch(), Float.floatToIntBits(33.3f));
        shortest();
        longest();
        Due.end();
    }

    /** The pitch of travels of 2, towards the least pitch there can be. */
    private static void shortest() {
        LabelApplicator x = Due.with("40*(l1g1)");
        x.set(0, 1);
        x.set(6, 3);
        x.setPitch(10);
        float pitch = 1.0f;
        for (int i = 0; i < 40; i++) {
            x.run(1, 0);
            pitch = pitch + (2 - pitch) * (3 / 8.0f);
            Due.be("pitch() of short labels", x.pitch(), Float.floatToIntBits(pitch));
        }
    }

    /** Long travels, so that the pitch grows beyond what can be set. */
    private static void longest() {
        LabelApplicator x = Due.with("5*(l99 b99 b20 g30) 5*(l99 b99 b62 g30) 5*(l99 b99 b99 g30)");
        x.set(2, 400);
        x.set(1, 50);
        x.set(6, 7);
        x.setPitch(2000);
        float pitch = 200.0f;
        int[] travels = {248, 290, 327};
        for (int travel : travels) {
            for (int i = 0; i < 5; i++) {
                x.run(1, 0);
                Due.be("reason", x.latest(2), 0);
                pitch = pitch + (travel - pitch) * (7 / 8.0f);
                Due.be("pitch() of " + travel, x.pitch(), Float.floatToIntBits(pitch));
            }
        }
    }
}
