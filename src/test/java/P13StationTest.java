/** Promise 13, station. */
public final class P13StationTest {
    public static void main(String[] args) {
        LabelApplicator x = Due.with("l47g3 b47g3 s3l44g3 l20l27g3 l53g3 b99b52");
        int[] wrong = {-1, 4, 10, Integer.MIN_VALUE, Integer.MAX_VALUE};
        for (int station : wrong) {
            Due.be("station(" + station + ")", x.station(station), Due.BAD);
        }
        int[] reasons = {0, 4, 3, 5, 6, 2, 1};
        for (int came = 1; came <= reasons.length; came++) {
            x.run(1, 50);
            for (int i = 0; i < 4; i++) {
                int due = came - 1 - i >= 0 ? reasons[came - 1 - i] : Due.NONE;
                Due.be("station(" + i + ") behind " + came, x.station(i), due);
            }
        }
        Due.countsBe("gate", x, 5, 4, 7, 1, 2);
        for (int station : wrong) {
            Due.be("station(" + station + ")", x.station(station), Due.BAD);
        }
        x.setRing(1);
        Due.be("station(0) of one", x.station(0), Due.NONE);
        Due.be("station(1) of one", x.station(1), Due.BAD);
        x.setRing(10);
        Due.be("station(9) of ten", x.station(9), Due.NONE);
        Due.be("station(10) of ten", x.station(10), Due.BAD);
        Due.end();
    }
}
