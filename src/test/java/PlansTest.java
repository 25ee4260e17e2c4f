/** Promises 19 to 27: DEEDS that nobody can part, how far apart they are, SEATS, and whom to call. */
public final class PlansTest {
    private final Bench bench = new Bench("PlansTest");

    public static void main(String[] args) {
        PlansTest test = new PlansTest();
        test.parting();
        test.wrongDeeds();
        test.beingApart();
        test.beingBlind();
        test.seats();
        test.bestSeats();
        test.lists();
        test.listsOfLikeFees();
        test.roundsAreLess();
        test.likeRounds();
        test.setsThatCannotBe();
        test.sentOut();
        test.eightDeeds();
        test.bench.close();
    }

    /**
     * A DEED for each number: in a MINUTE whose bit it has the THING is at 0 0. A WITNESS "02:9" SEES that CELL in the
     * MINUTES 0 to 2, and has a fee of 9.
     */
    private static String bits(int[] deeds, String... witnesses) {
        StringBuilder text = new StringBuilder("scene 2 by 1;minutes 5;thing k;");
        for (int i = 0; i < deeds.length; i++) {
            text.append("deed d").append((char) ('a' + i));
            for (int m = 0; m < 5; m++) {
                text.append((deeds[i] >> m & 1) == 1 ? " k at 0 0 in " + m : "");
            }
            text.append(';');
        }
        for (int i = 0; i < witnesses.length; i++) {
            text.append("witness w").append((char) ('a' + i)).append(" at 1 0 looks left from ")
                    .append(witnesses[i].charAt(0)).append(" to ").append(witnesses[i].charAt(1))
                    .append(" fee ").append(witnesses[i].substring(3)).append(';');
        }
        return text.toString();
    }

    private void parting() {
        HalfCourt court = Bench.court(bits(new int[] {0, 1, 2, 3, 4}, "00:1", "11:2") + "law fee<2;");
        int[][] first = {{0, 1, 0, 1, 0}, {1, 0, 1, 0, 1}, {0, 1, 0, 1, 0}, {1, 0, 1, 0, 1}, {0, 1, 0, 1, 0}};
        int[][] second = {{0, 0, 1, 1, 0}, {0, 0, 1, 1, 0}, {1, 1, 0, 0, 1}, {1, 1, 0, 0, 1}, {0, 0, 1, 1, 0}};
        for (int a = 0; a < 5; a++) {
            for (int b = 0; b < 5; b++) {
                bench.due("parts(0, " + a + ", " + b + ")", court.parts(0, a, b), first[a][b]);
                bench.due("SENT OUT parts(1, " + a + ", " + b + ")", court.parts(1, a, b), second[a][b]);
                bench.due("parted(" + a + ", " + b + ")", court.parted(a, b), first[a][b]);
            }
        }
        HalfCourt moved = Bench.court("scene 3 by 1;minutes 1;thing k;thing h;deed a k at 0 0 in 0;deed b h at 0 0 in 0;"
                + "deed c k at 0 0 in 0 h at 0 0 in 0;deed d k at 2 0 in 0;deed e;law 1;"
                + "witness w at 1 0 looks left from 0 to 0 fee 1;");
        bench.due("another THING", moved.parted(0, 1), 1);
        bench.due("one more THING", moved.parted(0, 2), 1);
        bench.due("out of sight or nowhere", moved.parted(3, 4), 0);
        bench.due("out of sight", moved.parted(0, 3), 1);
    }

    private void wrongDeeds() {
        HalfCourt court = Bench.court(bits(new int[] {0, 1}, "00:1"));
        int[] wrong = {-1, 2, 8, Integer.MAX_VALUE, Integer.MIN_VALUE};
        for (int w : wrong) {
            bench.due("parted", court.parted(w, 0), -1);
            bench.due("parted", court.parted(0, w), -1);
            bench.due("apart", court.apart(w, 0), -1);
            bench.due("apart", court.apart(0, w), -1);
            bench.due("parts", court.parts(0, w, 0), -1);
            bench.due("parts", court.parts(0, 0, w), -1);
            bench.due("parts", court.parts(w, 0, 0), -1);
        }
        bench.due("parts(1, ..)", court.parts(1, 0, 1), -1);
    }

    private void beingApart() {
        String text = "scene 4 by 1;minutes 2;thing k;thing h;"
                + "deed a k at 0 0 in 0 h at 0 0 in 0 k at 3 0 in 1;deed b k at 1 0 in 0 h at 1 0 in 0 k at 0 0 in 1;"
                + "deed c k at 0 0 in 0 h at 1 0 in 0 k at 0 0 in 1;"
                + "witness u at 1 0 looks left from 0 to 0 fee 1;witness v at 2 0 looks left from 0 to 1 fee 2;";
        HalfCourt court = Bench.court(text + "law 1;");
        bench.due("0 0 and 1 0 in 0, 0 0 in 1; 3 0 is not seen", court.apart(0, 1), 3);
        bench.due("the same way back", court.apart(1, 0), 3);
        bench.due("one THING of two moved", court.apart(0, 2), 3);
        bench.due("1, 2", court.apart(1, 2), 2);
        bench.due("itself", court.apart(2, 2), 0);
        bench.due("seen by two is told once; v is SENT OUT", Bench.court(text + "law fee<2;").apart(0, 1), 1);
        bench.due("all are SENT OUT", Bench.court(text + "law 0;").apart(0, 1), 0);
    }

    private void beingBlind() {
        String text = "scene 4 by 2;minutes 3;wall at 0 1;wall at 3 1;fog 1 far 1;"
                + "witness u at 2 0 looks left from 0 to 1 fee 1;witness v at 2 0 looks right from 1 to 1 fee 2;";
        HalfCourt court = Bench.court(text);
        bench.due("6 without walls, seen 0 0, 1 0, 1 1", court.blind(0), 3);
        bench.due("in fog 1 0, 1 1, 3 0", court.blind(1), 3);
        bench.due("nobody looks", court.blind(2), 6);
        bench.due("blind(-1)", court.blind(-1), -1);
        bench.due("blind(3)", court.blind(3), -1);
        bench.due("who is SENT OUT does not count", Bench.court(text + "law fee>1;").blind(0), 6);
        bench.due("the other does", Bench.court(text + "law fee>1;").blind(1), 5);
    }

    private void seats() {
        String text = "scene 4 by 2;minutes 2;wall at 1 1;thing k;deed a;deed b k at 3 0 in 1;deed c k at 3 1 in 0;"
                + "deed d k at 0 0 in 0;witness u at 1 0 looks left from 0 to 1 fee 9;";
        HalfCourt court = Bench.court(text);
        bench.due("a and d are PARTED already", court.parted(0, 3), 1);
        bench.due("TWINS", court.parted(0, 1), 0);
        bench.due("right from 2 0: ab, ac, bc", court.seat(2, 0, 1), 3);
        bench.due("left from 2 0: nothing new", court.seat(2, 0, 0), 0);
        bench.due("up from 3 0: ac, bc", court.seat(3, 0, 2), 2);
        bench.due("down from 3 1: ab, bc", court.seat(3, 1, 3), 2);
        bench.due("right from 0 0 SEES 8 of 16", court.seat(0, 0, 1), 3);
        bench.due("and 12 without the wall", Bench.court(text.replace("wall at 1 1;", "")).seat(0, 0, 1), 0);
        int[][] wrong = {{-1, 0, 0}, {4, 0, 0}, {0, -1, 0}, {0, 2, 0}, {0, 0, -1}, {0, 0, 4}, {1, 1, 0}};
        for (int[] w : wrong) {
            bench.due("no SEAT", court.seat(w[0], w[1], w[2]), -1);
        }
        bench.due("the law sends him out", Bench.court(text + "law fee>1;").seat(2, 0, 1), 0);
        bench.due("his fee is 1", Bench.court(text + "law fee=9 or fee=1;").seat(2, 0, 1), 3);
        bench.due("he SEES 4", Bench.court(text + "law sees=4 or fee=9;").seat(2, 0, 1), 3);
        bench.due("more TWINS if u is SENT OUT", Bench.court(text + "law fee<9;").seat(2, 0, 0), 3);
    }

    private void bestSeats() {
        String text = "scene 4 by 2;minutes 2;wall at 1 1;thing k;deed a;deed b k at 3 0 in 1;deed c k at 3 1 in 0;"
                + "deed d k at 0 0 in 0;witness u at 1 0 looks left from 0 to 1 fee 9;";
        dueBest(text, 0, 0, 1, 3);
        dueBest(text + "wall at 1 0;", 2, 0, 1, 3);
        dueBest(text + "law fee>1;", 0, 0, 0, 0);
        dueBest("scene 2 by 2;minutes 1;thing k;deed a k at 1 1 in 0;deed b;", 0, 0, 1, 1);
        dueBest("scene 1 by 2;minutes 1;thing k;deed a k at 0 0 in 0;deed b;", 0, 1, 3, 1);
        dueBest("scene 2 by 1;minutes 1;wall at 0 0;", 1, 0, 0, 0);
        dueBest("scene 2 by 1;", 0, 0, 0, 0);
        HalfCourt none = Bench.court("scene 2 by 1;minutes 1;wall at 0 0;wall at 1 0;");
        for (int what = -1; what < 5; what++) {
            bench.due("no SEAT", none.bestSeat(what), -1);
        }
        HalfCourt other = Bench.court(text);
        other.bestSeat(0);
        Bench.tell(other, "scene 1 by 2;minutes 1;thing k;deed a k at 0 0 in 0;deed b;");
        bench.due("another CASE has another one", other.bestSeat(1), 1);
    }

    private void dueBest(String text, int x, int y, int side, int use) {
        HalfCourt court = Bench.court(text);
        bench.due("x in " + text, court.bestSeat(0), x);
        bench.due("y in " + text, court.bestSeat(1), y);
        bench.due("side in " + text, court.bestSeat(2), side);
        bench.due("use in " + text, court.bestSeat(3), use);
        bench.due("bestSeat(4)", court.bestSeat(4), -1);
        bench.due("bestSeat(-1)", court.bestSeat(-1), -1);
    }

    private void duePlans(HalfCourt court, int deeds, int list, int fees, int rounds, int first, int turn) {
        bench.due("list(" + deeds + ", 0)", court.list(deeds, 0), list);
        bench.due("list(" + deeds + ", 1)", court.list(deeds, 1), fees);
        bench.due("rounds(" + deeds + ", 0)", court.rounds(deeds, 0), rounds);
        bench.due("rounds(" + deeds + ", 1)", court.rounds(deeds, 1), first);
        bench.due("byTurn(" + deeds + ")", court.byTurn(deeds), turn);
    }

    private void lists() {
        HalfCourt court = Bench.court(bits(new int[] {0, 1, 2, 3, 4}, "00:1", "11:2", "01:4"));
        duePlans(court, 0, 0, 0, 0, -1, 0);
        duePlans(court, 1, 0, 0, 0, -1, 0);
        duePlans(court, 3, 1, 1, 1, 0, 1);
        duePlans(court, 5, 2, 2, 2, 1, 2);
        duePlans(court, 15, 3, 3, 3, 0, 3);
        duePlans(court, 17, 0, 0, 0, -1, 0);
        duePlans(court, 31, 3, 3, 3, 0, 3);
        HalfCourt dear = Bench.court(bits(new int[] {0, 1, 2, 3, 4}, "00:1", "11:4", "01:4"));
        duePlans(dear, 15, 4, 4, 4, 2, 5);
        duePlans(dear, 5, 2, 4, 4, 1, 4);
    }

    private void listsOfLikeFees() {
        HalfCourt court = Bench.court(bits(new int[] {0, 1, 2, 3}, "01:3", "00:1", "11:2", "01:3"));
        duePlans(court, 15, 1, 3, 3, 0, 3);
        HalfCourt two = Bench.court(bits(new int[] {0, 1, 2, 3}, "00:1", "11:2", "01:3"));
        duePlans(two, 15, 3, 3, 3, 0, 3);
        HalfCourt copies = Bench.court(bits(new int[] {0, 1}, "00:5", "00:4", "00:4"));
        duePlans(copies, 3, 2, 4, 4, 1, 5);
    }

    private void roundsAreLess() {
        // The first parts b from all others, the second d; the third parts a, b from c, d.
        HalfCourt court = Bench.court(bits(new int[] {0, 2, 1, 5}, "11:5", "22:5", "00:1"));
        duePlans(court, 15, 7, 11, 6, 2, 11);
        duePlans(court, 3, 1, 5, 5, 0, 5);
        duePlans(court, 12, 2, 5, 5, 1, 5);
        duePlans(court, 5, 4, 1, 1, 2, 1);
        duePlans(court, 6, 4, 1, 1, 2, 5);
        duePlans(court, 7, 5, 6, 6, 0, 6);
        // By turn only who is of use is called: a against b is known behind the first.
        HalfCourt turn = Bench.court(bits(new int[] {0, 1, 3}, "22:9", "00:3", "11:4"));
        duePlans(turn, 7, 6, 7, 7, 1, 7);
    }

    private void likeRounds() {
        HalfCourt court = Bench.court(bits(new int[] {0, 1, 2, 3}, "00:2", "11:2", "01:4"));
        bench.due("the first who is least", court.rounds(15, 1), 0);
        HalfCourt dearer = Bench.court(bits(new int[] {0, 1, 2, 3}, "00:2", "11:2", "01:3"));
        duePlans(dearer, 15, 4, 3, 3, 2, 4);
    }

    private void setsThatCannotBe() {
        HalfCourt court = Bench.court(bits(new int[] {0, 1, 2, 3}, "00:2", "11:2"));
        int[] wrong = {16, 17, -1, 256, Integer.MIN_VALUE, Integer.MAX_VALUE};
        for (int set : wrong) {
            duePlans(court, set, -1, -1, -1, -1, -1);
        }
        bench.due("list(15, 2)", court.list(15, 2), -1);
        bench.due("list(15, -1)", court.list(15, -1), -1);
        bench.due("rounds(15, 2)", court.rounds(15, 2), -1);
        bench.due("rounds(15, -1)", court.rounds(15, -1), -1);
    }

    private void sentOut() {
        HalfCourt court = Bench.court(bits(new int[] {0, 1, 2, 3}, "00:2", "11:2", "01:1") + "law fee=2;");
        duePlans(court, 15, 3, 4, 4, 0, 4);
        HalfCourt half = Bench.court(bits(new int[] {0, 1, 2, 3}, "00:2", "11:3") + "law fee=3;");
        duePlans(half, 15, 2, 3, 3, 1, 3);
        duePlans(half, 3, 0, 0, 0, -1, 0);
        duePlans(Bench.court(bits(new int[] {0, 1}, "00:2") + "law 0;"), 3, 0, 0, 0, -1, 0);
    }

    private void eightDeeds() {
        int[] all = {0, 1, 2, 3, 4, 5, 6, 7};
        HalfCourt court = Bench.court(bits(all, "22:4", "11:2", "00:1", "01:9", "12:9", "33:1", "44:1", "34:2", "33:1", "02:8"));
        duePlans(court, 255, 7, 7, 7, 0, 7);
        duePlans(court, 128 + 64 + 2, 6, 3, 3, 1, 5);
        HalfCourt cheap = Bench.court(bits(all, "22:4", "11:2", "00:1", "01:9", "12:9", "33:1", "44:1", "34:2", "33:1", "02:6"));
        duePlans(cheap, 255, 512, 6, 6, 9, 7);
        // Another CASE on the same object: nothing of the one before is left.
        Bench.tell(cheap, bits(all, "00:50"));
        duePlans(cheap, 255, 1, 50, 50, 0, 50);
    }
}
