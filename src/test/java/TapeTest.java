/** Promises 1 to 5 and 30: a new object, the TAPE, what trial() keeps and what it leaves, the counts. */
public final class TapeTest {
    private static final String CASE = "scene 3 by 2;minutes 2;wall at 0 0;thing k;thing h;thing m;deed a k at 1 0 in 0;deed b;"
            + "witness w at 2 1 looks left from 0 to 1 fee 3;law sees + (1);";

    private final Bench bench = new Bench("TapeTest");

    public static void main(String[] args) {
        TapeTest test = new TapeTest();
        test.newObject();
        test.feeding();
        test.bytesInOrder();
        test.cutting();
        test.faultsLeaveAll();
        test.trialEmpties();
        test.counts();
        test.bench.close();
    }

    private void newObject() {
        HalfCourt court = new HalfCourt();
        for (int what = 0; what <= 10; what++) {
            bench.due("new about(" + what + ")", court.about(what), 0);
        }
        bench.due("new fault(0)", court.fault(0), 0);
        bench.due("new fault(1)", court.fault(1), -1);
        bench.due("new call", court.call(0, 0), -1);
        bench.due("new scene", court.scene(0, 0, 0, 0), -1);
        bench.due("new liars", court.liars(0, 0), -1);
        bench.due("new untell", court.untell(0), false);
        bench.due("new parted", court.parted(0, 0), -1);
        bench.due("new parts", court.parts(0, 0, 0), -1);
        bench.due("new back", court.back(0), -1);
        bench.due("NONE", HalfCourt.NONE, -1);
        HalfCourt other = new HalfCourt();
        other.feed(1, 2, 3, 4, 5);
        bench.due("objects have nothing in common", court.about(9), 0);
        bench.due("trial of an empty TAPE", court.trial(), 0);
        bench.due("its FAULT", court.fault(0), 0);
    }

    private void feeding() {
        HalfCourt court = new HalfCourt();
        for (int i = 1; i <= 85; i++) {
            bench.due("feed " + i, court.feed(0x20202020, 0x20202020, 0x20202020, 0x20202020, 0x20202020), 20 * i);
        }
        bench.due("feed 86", court.feed(0, 0, 0, 0, 0), -1);
        bench.due("about(9) behind it", court.about(9), 1700);
        bench.due("end(1681)", court.end(1681), 1681);
        bench.due("19 bytes are not enough", court.feed(0, 0, 0, 0, 0), -1);
        bench.due("nothing came", court.about(9), 1681);
        bench.due("end(1680)", court.end(1680), 1680);
        bench.due("20 are", court.feed(0, 0, 0, 0, 0), 1700);
        bench.due("trial", court.trial(), -1);
        bench.due("the FAULT", court.fault(0), 1);
        bench.due("is where the zeroes come", court.fault(1), 1680);
    }

    private void bytesInOrder() {
        HalfCourt court = new HalfCourt();
        bench.due("feed", court.feed(0x7363656e, 0x65203620, 0x62792035, 0x3b6d696e, 0x75746573), 20);
        bench.due("feed", court.feed(0x20343b40, 0xffffffff, 0x80808080, 0, -1), 40);
        bench.due("trial", court.trial(), -1);
        bench.due("fault(0)", court.fault(0), 1);
        bench.due("fault(1)", court.fault(1), 23);
        bench.due("end", court.end(23), 23);
        bench.due("trial", court.trial(), 0);
        bench.due("across", court.about(0), 6);
        bench.due("up", court.about(1), 5);
        bench.due("MINUTES", court.about(2), 4);
        HalfCourt high = new HalfCourt();
        high.feed(0x208a2020, 0x20202020, 0x20202020, 0x20202020, 0x20202020);
        bench.due("a byte above 127 is no blank", high.trial(), -1);
        bench.due("its place", high.fault(1), 1);
    }

    private void cutting() {
        HalfCourt court = new HalfCourt();
        bench.due("end(0) of none", court.end(0), 0);
        bench.due("end(1) of none", court.end(1), -1);
        court.feed(0x7363656e, 0x65203620, 0x62792035, 0x3b6d696e, 0x75746573);
        bench.due("end(21)", court.end(21), -1);
        bench.due("end(-1)", court.end(-1), -1);
        bench.due("end(MIN)", court.end(Integer.MIN_VALUE), -1);
        bench.due("end(MAX)", court.end(Integer.MAX_VALUE), -1);
        bench.due("they do nothing", court.about(9), 20);
        bench.due("end(20)", court.end(20), 20);
        bench.due("end(13)", court.end(13), 13);
        bench.due("end(14) then", court.end(14), -1);
        bench.due("trial", court.trial(), 0);
        bench.due("across", court.about(0), 6);
    }

    private void faultsLeaveAll() {
        HalfCourt court = Bench.court(CASE);
        court.later(5);
        bench.due("state", court.state(0, 1, 0, 0, 1), 0);
        court.image(2);
        bench.due("a FAULT", Bench.tell(court, "scene 1 by 1;wall"), -1);
        bench.due("fault(0)", court.fault(0), 2);
        bench.due("fault(1)", court.fault(1), 13);
        bench.due("the TAPE stays", court.about(9), 17);
        bench.due("the CASE stays", court.about(0), 3);
        bench.due("STATEMENTS stay", court.about(7), 1);
        bench.due("the BOX stays", court.back(2), 1);
        bench.due("it sees as before", court.edge(0, 1, 0, 0), 0);
        bench.due("the same FAULT again", court.trial(), -1);
        bench.due("end", court.end(13), 13);
        bench.due("now it is a CASE", court.trial(), 0);
        bench.due("fault(0) of it", court.fault(0), 0);
        bench.due("fault(1) of it", court.fault(1), -1);
        bench.due("fault(2)", court.fault(2), -1);
        bench.due("fault(-1)", court.fault(-1), -1);
    }

    private void trialEmpties() {
        HalfCourt court = Bench.court(CASE);
        court.later(7);
        court.state(0, 1, 0, 0, 1);
        court.image(0);
        court.image(1);
        court.image(2);
        bench.due("trial", Bench.tell(court, "scene 2 by 1;"), 0);
        bench.due("STATEMENTS are none", court.about(7), 0);
        bench.due("the TIME stays", court.about(8), 7);
        bench.due("the TAPE is empty", court.about(9), 0);
        for (int box = 0; box < 3; box++) {
            bench.due("BOX " + box + " is empty", court.back(box), -1);
        }
        bench.due("no THINGS are left", court.about(4), 0);
        bench.due("no law is left", court.about(10), 0);
        bench.due("CELLS without MINUTES", court.seat(1, 0, 0), 0);
        bench.due("and the best of them", court.bestSeat(3), 0);
        bench.due("no MINUTE", court.blind(0), -1);
        bench.due("an empty TAPE is the empty CASE", court.trial(), 0);
        bench.due("across", court.about(0), 0);
        bench.due("up", court.about(1), 0);
        bench.due("no SEAT", court.bestSeat(3), -1);
    }

    private void counts() {
        HalfCourt court = Bench.court(CASE);
        int[] due = {3, 2, 2, 1, 3, 2, 1, 0, 0, 0, 3};
        for (int what = 0; what < due.length; what++) {
            bench.due("about(" + what + ")", court.about(what), due[what]);
        }
        bench.due("about(-1)", court.about(-1), -1);
        bench.due("about(11)", court.about(11), -1);
        court.later(12);
        court.call(0, 0);
        court.feed(0, 0, 0, 0, 0);
        bench.due("about(7)", court.about(7), 1);
        bench.due("about(8)", court.about(8), 12);
        bench.due("about(9)", court.about(9), 20);
    }
}
