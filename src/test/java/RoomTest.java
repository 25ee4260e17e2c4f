import java.lang.management.ManagementFactory;

/** All calls of a run live in one room: an object is small, and no call behind its constructor makes anything. */
public final class RoomTest {
    private static final String CASE = "scene 6 by 6;minutes 5;wall at 3 3;fog 2 far 3;thing a;thing b;"
            + "deed a a at 0 0 in 0;deed b b at 1 1 in 1;deed c a at 5 5 in 4;deed d;deed e a at 1 0 in 0;deed f b at 4 4 in 2;"
            + "deed g a at 2 3 in 3;deed h b at 2 4 in 2 a at 0 5 in 1;"
            + "witness a at 3 2 looks left from 0 to 4 fee 9;witness b at 3 4 looks right from 0 to 4 fee 8;"
            + "witness c at 0 3 looks up from 0 to 2 fee 7;witness d at 5 3 looks down from 2 to 4 fee 6;"
            + "witness e at 2 2 looks left from 1 to 1 fee 5;witness f at 2 4 looks up from 0 to 4 fee 4;"
            + "witness g at 1 1 looks down from 0 to 4 fee 3;witness h at 4 4 looks right from 0 to 4 fee 2;"
            + "witness i at 4 0 looks right from 0 to 4 fee 1;witness j at 0 5 looks down from 0 to 0 fee 1;"
            + "law not (sees * 2 > cells * minutes) and (fee < 9 or sees % 2 = 0);";

    private static long made() {
        return ((com.sun.management.ThreadMXBean) ManagementFactory.getThreadMXBean())
                .getThreadAllocatedBytes(Thread.currentThread().getId());
    }

    public static void main(String[] args) {
        Bench bench = new Bench("RoomTest");
        manyCalls(Bench.court(CASE));
        long before = made();
        HalfCourt court = new HalfCourt();
        long object = made() - before;
        bench.due("an object takes " + object + " bytes, 40,000 at most", object <= 40_000, true);
        Bench.feed(court, CASE);
        before = made();
        int answers = court.trial() + manyCalls(court);
        long calls = made() - before;
        bench.due("500 calls made " + calls + " bytes (answers " + answers + ")", calls < 1000, true);
        bench.close();
    }

    private static int manyCalls(HalfCourt court) {
        int sum = 0;
        for (int i = 0; i < 16; i++) {
            sum += court.feed(1, 2, 3, 4, 5) + court.end(i) + court.trial() + court.fault(0) + court.edge(i % 10, 5, 5, 4);
            sum += court.witness(i % 10, 0) + court.scene(i % 8, 1, 1, 1) + court.state(0, 0, 0, 0, 1) + court.call(i % 10, i % 8);
            sum += (court.untell(i) ? 1 : 0) + court.later(i) + court.fits(i) + court.liars(0, i) + court.fewest(0, i);
            sum += court.sure(0, 0, 0, true, 0) + court.twice(i) + court.struck(0, i) + court.apart(0, 1) + court.blind(i % 5);
            sum += court.seat(i % 6, 1, 1) + court.bestSeat(3) + court.byTurn(255 - i) + court.parted(0, 1) + court.parts(0, 1, 2);
            sum += court.list(255 - i, 0) + court.rounds(255 - i, 0) + court.image(i % 3) + court.back(i % 3) + court.about(i);
        }
        return sum;
    }
}
