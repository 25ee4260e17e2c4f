/** Promises 19 to 27, and "Terms" of them: DEEDS that nobody can part, how far apart they are, SEATS, whom to call. */
public final class PlansTest {
    private final Bench bench = new Bench("PlansTest");

    public static void main(String[] args) {
        PlansTest test = new PlansTest();
        test.parting();
        test.partedAsked();
        test.partsAsked();
        test.beingApart();
        test.apartInTheLastMinute();
        test.beingBlind();
        test.seats();
        test.seatsUnderTheLaw();
        test.seatsInAllMinutes();
        test.seatsThatCannotBe();
        test.bestSeats();
        test.bestOfLikeSeats();
        test.bestSeatAsked();
        test.lists();
        test.listsOfLikeFees();
        test.listsAsked();
        test.roundsAreLess();
        test.roundsOfTwins();
        test.likeRounds();
        test.roundsAsked();
        test.turns();
        test.turnsAsked();
        test.sentOut();
        test.eightDeeds();
        test.tenWitnesses();
        test.bench.close();
    }

    private void terms(String words) {
        bench.words("Terms", words);
    }

    /**
     * A DEED for each number: in a MINUTE whose bit it has the THING is at 0 0. A WITNESS "02:9" SEES that CELL in the
     * MINUTES 0 to 2, and has a fee of 9.
     */
    private static String bits(int[] deeds, String... witnesses) {
        StringBuilder text = new StringBuilder("scene 2 by 1;minutes 5;thing k;");
        for (int i = 0; i < deeds.length; i++) {
            text.append("deed d").append((char) ('a' + i));
            for (int m = 0; m < 5; m++) {
                text.append((deeds[i] >> m & 1) == 1 ? " k at 0 0 in " + m : "");
            }
            text.append(';');
        }
        for (int i = 0; i < witnesses.length; i++) {
            text.append("witness w").append((char) ('a' + i)).append(" at 1 0 looks left from ")
                    .append(witnesses[i].charAt(0)).append(" to ").append(witnesses[i].charAt(1))
                    .append(" fee ").append(witnesses[i].substring(3)).append(';');
        }
        return text.toString();
    }

    private void parting() {
        terms("==== 4. PARTED: two DEEDS of which some WITNESS who may be HEARD could SAY unlike things. TWINS are those that are not.");
        HalfCourt court = Bench.court(bits(new int[] {0, 1, 2, 3, 4}, "00:1", "11:2") + "law fee<2;");
        int[][] first = {{0, 1, 0, 1, 0}, {1, 0, 1, 0, 1}, {0, 1, 0, 1, 0}, {1, 0, 1, 0, 1}, {0, 1, 0, 1, 0}};
        int[][] second = {{0, 0, 1, 1, 0}, {0, 0, 1, 1, 0}, {1, 1, 0, 0, 1}, {1, 1, 0, 0, 1}, {0, 0, 1, 1, 0}};
        for (int a = 0; a < 5; a++) {
            for (int b = 0; b < 5; b++) {
                bench.due("parts(0, " + a + ", " + b + ")", court.parts(0, a, b), first[a][b]);
                bench.due("SENT OUT parts(1, " + a + ", " + b + ")", court.parts(1, a, b), second[a][b]);
                bench.due("parted(" + a + ", " + b + ")", court.parted(a, b), first[a][b]);
            }
        }
        HalfCourt moved = Bench.court("scene 3 by 1;minutes 1;thing k;thing h;deed a k at 0 0 in 0;deed b h at 0 0 in 0;"
                + "deed c k at 0 0 in 0 h at 0 0 in 0;deed d k at 2 0 in 0;deed e;law 1;"
                + "witness w at 1 0 looks left from 0 to 0 fee 1;");
        bench.due("another THING", moved.parted(0, 1), 1);
        bench.due("one more THING", moved.parted(0, 2), 1);
        bench.due("out of sight or nowhere", moved.parted(3, 4), 0);
        bench.due("out of sight", moved.parted(0, 3), 1);
        bench.due("nobody is there", Bench.court(bits(new int[] {0, 1})).parted(0, 1), 0);
    }

    private static final int[] NO_DEED_OF_TWO = {-1, 2, 7, 8, 63, 64, Integer.MAX_VALUE, Integer.MIN_VALUE};

    private void partedAsked() {
        bench.words("parted", "1 if two DEEDS are PARTED, else 0 (one and itself: 0);");
        HalfCourt court = Bench.court(bits(new int[] {0, 1}, "00:1"));
        bench.dueAll("PARTED", 1, court.parted(0, 1), court.parted(1, 0));
        bench.dueAll("one and itself", 0, court.parted(0, 0), court.parted(1, 1));
        bench.due("TWINS", Bench.court(bits(new int[] {0, 2}, "00:1")).parted(0, 1), 0);
        bench.words("parted", "NONE if one can't be.");
        for (int w : NO_DEED_OF_TWO) {
            bench.dueAll("parted", -1, court.parted(w, 0), court.parted(0, w), court.parted(w, w));
        }
        bench.due("no DEEDS", Bench.court("scene 1 by 1;minutes 1;").parted(0, 0), -1);
    }

    private void partsAsked() {
        bench.words("parts", "1 if a WITNESS, HEARD or not, could SAY unlike things of two DEEDS, else 0;");
        HalfCourt court = Bench.court(bits(new int[] {0, 1}, "00:1", "11:2", "00:3") + "law fee<3;");
        bench.dueAll("who SEES it", 1, court.parts(0, 0, 1), court.parts(0, 1, 0), court.parts(2, 0, 1), court.parts(2, 1, 0));
        bench.dueAll("who does not", 0, court.parts(1, 0, 1), court.parts(1, 1, 0), court.parts(0, 1, 1), court.parts(2, 0, 0));
        bench.due("he is SENT OUT", court.witness(2, 2), 0);
        bench.words("parts", "NONE if one can't be.");
        for (int w : NO_DEED_OF_TWO) {
            bench.dueAll("parts", -1, court.parts(0, w, 0), court.parts(0, 0, w));
        }
        bench.dueAll("no WITNESS", -1, court.parts(-1, 0, 1), court.parts(3, 0, 1), court.parts(10, 0, 1),
                court.parts(Integer.MAX_VALUE, 0, 1), court.parts(Integer.MIN_VALUE, 0, 1));
    }

    private void beingApart() {
        terms("APART of two DEEDS: how many (CELL, MINUTE) some WITNESS who may be HEARD SEES, in which unlike THINGS are.");
        bench.words("apart", "APART; NONE if one can't be.");
        String text = "scene 4 by 1;minutes 2;thing k;thing h;"
                + "deed a k at 0 0 in 0 h at 0 0 in 0 k at 3 0 in 1;deed b k at 1 0 in 0 h at 1 0 in 0 k at 0 0 in 1;"
                + "deed c k at 0 0 in 0 h at 1 0 in 0 k at 0 0 in 1;"
                + "witness u at 1 0 looks left from 0 to 0 fee 1;witness v at 2 0 looks left from 0 to 1 fee 2;";
        HalfCourt court = Bench.court(text + "law 1;");
        bench.due("0 0 and 1 0 in 0, 0 0 in 1; 3 0 is not seen", court.apart(0, 1), 3);
        bench.due("the same way back", court.apart(1, 0), 3);
        bench.due("one THING of two moved", court.apart(0, 2), 3);
        bench.due("1, 2", court.apart(1, 2), 2);
        bench.dueAll("itself", 0, court.apart(0, 0), court.apart(1, 1), court.apart(2, 2));
        bench.due("seen by two is told once; v is SENT OUT", Bench.court(text + "law fee<2;").apart(0, 1), 1);
        bench.due("all are SENT OUT", Bench.court(text + "law 0;").apart(0, 1), 0);
        for (int w : new int[] {-1, 3, 8, 64, Integer.MAX_VALUE, Integer.MIN_VALUE}) {
            bench.dueAll("apart", -1, court.apart(w, 0), court.apart(0, w), court.apart(w, w));
        }
        bench.due("no DEEDS", Bench.court("scene 1 by 1;minutes 1;").apart(0, 0), -1);
        HalfCourt two = Bench.court("scene 6 by 1;minutes 1;thing k;thing h;thing m;law 1;witness w at 5 0 looks left from 0 to 0 fee 1;"
                + "deed a k at 0 0 in 0 h at 1 0 in 0 m at 4 0 in 0;deed b k at 2 0 in 0 h at 3 0 in 0 m at 4 0 in 0;deed c;");
        bench.due("each THING where it is and where it was", two.apart(0, 1), 4);
        bench.due("three that are nowhere else", two.apart(0, 2), 3);
        bench.due("three that were nowhere", two.apart(2, 1), 3);
    }

    private void apartInTheLastMinute() {
        StringBuilder text = new StringBuilder("scene 2 by 1;minutes 5;thing k;law 1;deed a;deed b");
        for (int minute = 0; minute < 5; minute++) {
            text.append(" k at 0 0 in ").append(minute);
        }
        text.append(";deed c;deed d;deed e;deed f;deed g;deed h k at 0 0 in 4;witness w at 1 0 looks left from 0 to 4 fee 1;");
        HalfCourt court = Bench.court(text.toString());
        bench.due("five MINUTES", court.apart(0, 1), 5);
        bench.due("the last one", court.apart(0, 7), 1);
        bench.due("all but the last one", court.apart(7, 1), 4);
        bench.due("the last but one DEED", court.apart(6, 7), 1);
    }

    private void beingBlind() {
        terms("BLIND in a MINUTE: CELLS without walls that none of these SEES.");
        bench.words("blind", "BLIND: how many; NONE if there is no such MINUTE.");
        String text = "scene 4 by 2;minutes 3;wall at 0 1;wall at 3 1;fog 1 far 1;"
                + "witness u at 2 0 looks left from 0 to 1 fee 1;witness v at 2 0 looks right from 1 to 1 fee 2;";
        HalfCourt court = Bench.court(text);
        bench.due("6 without walls, seen 0 0, 1 0, 1 1", court.blind(0), 3);
        bench.due("in fog 1 0, 1 1, 3 0", court.blind(1), 3);
        bench.due("nobody looks", court.blind(2), 6);
        bench.dueAll("no such MINUTE", -1, court.blind(-1), court.blind(3), court.blind(5), court.blind(Integer.MAX_VALUE),
                court.blind(Integer.MIN_VALUE));
        bench.due("who is SENT OUT does not count", Bench.court(text + "law fee>1;").blind(0), 6);
        bench.due("the other does", Bench.court(text + "law fee>1;").blind(1), 5);
        bench.due("no WITNESSES", Bench.court("scene 6 by 6;minutes 5;wall at 5 5;").blind(4), 35);
        bench.due("walls alone", Bench.court("scene 1 by 1;minutes 1;wall at 0 0;").blind(0), 0);
        bench.due("no MINUTES", Bench.court("scene 1 by 1;").blind(0), -1);
        bench.due("all but where they sit, which each other SEES", Bench.court("scene 2 by 1;minutes 1;"
                + "witness u at 0 0 looks right from 0 to 0 fee 1;witness v at 1 0 looks left from 0 to 0 fee 1;").blind(0), 0);
    }

    private static final String SEATS = "scene 4 by 2;minutes 2;wall at 1 1;thing k;deed a;deed b k at 3 0 in 1;deed c k at 3 1 in 0;"
            + "deed d k at 0 0 in 0;witness u at 1 0 looks left from 0 to 1 fee 9;";

    private void seats() {
        terms("A SEAT: a CELL without a wall, a side (0 left, 1 right, 2 up, 3 down): of use for as many pairs of TWINS "
                + "as one who looks so from there");
        bench.words("seat", "Of how much use a SEAT is;");
        HalfCourt court = Bench.court(SEATS);
        bench.due("a and d are PARTED already", court.parted(0, 3), 1);
        bench.due("TWINS", court.parted(0, 1), 0);
        bench.due("right from 2 0: ab, ac, bc", court.seat(2, 0, 1), 3);
        bench.due("left from 2 0: nothing new", court.seat(2, 0, 0), 0);
        bench.due("up from 3 0: ac, bc", court.seat(3, 0, 2), 2);
        bench.due("down from 3 1: ab, bc", court.seat(3, 1, 3), 2);
        bench.due("right from 0 0 SEES 8 of 16", court.seat(0, 0, 1), 3);
        // From 1 1 each side has one CELL, in which one DEED has its THING.
        HalfCourt cross = Bench.court("scene 3 by 3;minutes 1;thing k;wall at 0 0;wall at 2 0;wall at 0 2;wall at 2 2;deed z;"
                + "deed a k at 0 1 in 0;deed b k at 0 1 in 0;deed c k at 2 1 in 0;deed d k at 1 2 in 0;deed e k at 1 2 in 0;"
                + "deed f k at 1 2 in 0;");
        bench.dueAll("left a, b; right c; up d, e, f; down none", 0, cross.seat(1, 1, 0) - 10, cross.seat(1, 1, 1) - 6,
                cross.seat(1, 1, 2) - 12, cross.seat(1, 1, 3));
    }

    private void seatsUnderTheLaw() {
        terms("with a fee of 1, would PART (none, if the law sends him out);");
        bench.due("the law sends him out", Bench.court(SEATS + "law fee>1;").seat(2, 0, 1), 0);
        bench.due("his fee is 1", Bench.court(SEATS + "law fee=9 or fee=1;").seat(2, 0, 1), 3);
        bench.due("he SEES 4", Bench.court(SEATS + "law sees=4 or fee=9;").seat(2, 0, 1), 3);
        bench.due("not 5", Bench.court(SEATS + "law sees=5 or fee=9;").seat(2, 0, 1), 0);
        bench.due("CELLS, MINUTES", Bench.court(SEATS + "law cells=8 and minutes=2;").seat(2, 0, 1), 3);
        bench.due("more TWINS if u is SENT OUT", Bench.court(SEATS + "law fee<9;").seat(2, 0, 0), 3);
        bench.due("8 of 16 without a law", Bench.court(SEATS).seat(0, 0, 1), 3);
        bench.due("and 12 of 16 without the wall", Bench.court(SEATS.replace("wall at 1 1;", "")).seat(0, 0, 1), 0);
    }

    private void seatsInAllMinutes() {
        terms("in all MINUTES,");
        for (int minute = 0; minute < 5; minute++) {
            String text = "scene 2 by 1;minutes 5;thing k;deed a;deed b k at 0 0 in " + minute + ";";
            bench.due("in MINUTE " + minute, Bench.court(text).seat(1, 0, 0), 1);
            bench.due("he SEES 5", Bench.court(text + "law sees=5;").seat(1, 0, 0), 1);
        }
        HalfCourt one = Bench.court("scene 2 by 1;minutes 1;thing k;deed a;deed b k at 0 0 in 0;");
        bench.due("in the one MINUTE", one.seat(1, 0, 0), 1);
        bench.due("a SEAT is no WITNESS", one.about(6), 0);
        bench.due("nor does it PART", one.parted(0, 1), 0);
    }

    private void seatsThatCannotBe() {
        bench.words("seat", "NONE if one can't be (a wall, too).");
        HalfCourt court = Bench.court(SEATS);
        int[][] wrong = {{-1, 0, 0}, {4, 0, 0}, {0, -1, 0}, {0, 2, 0}, {0, 0, -1}, {0, 0, 4}, {6, 0, 0}, {0, 6, 0}};
        for (int[] w : wrong) {
            bench.due("no SEAT", court.seat(w[0], w[1], w[2]), -1);
        }
        for (int side = 0; side < 4; side++) {
            bench.due("a wall", court.seat(1, 1, side), -1);
            bench.due("the last CELL", court.seat(3, 1, side) >= 0, true);
        }
        for (int far : new int[] {Integer.MIN_VALUE, Integer.MAX_VALUE}) {
            bench.dueAll("no SEAT", -1, court.seat(far, 0, 0), court.seat(0, far, 0), court.seat(0, 0, far));
        }
    }

    private void bestSeats() {
        terms("BEST SEAT: of most use;");
        dueBest(SEATS, 0, 0, 1, 3);
        dueBest(SEATS + "wall at 1 0;", 2, 0, 1, 3);
        dueBest("scene 1 by 2;minutes 1;thing k;deed a k at 0 0 in 0;deed b;", 0, 1, 3, 1);
        dueBest("scene 6 by 1;minutes 1;thing k;wall at 4 0;deed a k at 5 0 in 0;deed b;deed c k at 3 0 in 0;law sees<3;", 1, 0, 1, 2);
        dueBest("scene 1 by 6;minutes 5;thing k;wall at 0 4;deed a k at 0 5 in 4;deed b;deed c k at 0 5 in 0;", 0, 0, 0, 0);
        StringBuilder last = new StringBuilder("scene 2 by 6;minutes 5;thing k;deed a k at 1 4 in 4;deed b;");
        for (int i = 0; i < 10; i++) {
            last.append("wall at ").append(i < 6 ? 0 : 1).append(' ').append(i % 6).append(';');
        }
        dueBest(last.toString(), 1, 5, 3, 1);
        HalfCourt other = Bench.court(SEATS);
        other.bestSeat(0);
        Bench.tell(other, "scene 1 by 2;minutes 1;thing k;deed a k at 0 0 in 0;deed b;");
        bench.due("another CASE has another one", other.bestSeat(1), 1);
    }

    private void bestOfLikeSeats() {
        terms("of like ones the first by y, then x, then side.");
        dueBest("scene 2 by 2;minutes 1;thing k;deed a k at 1 1 in 0;deed b;", 0, 0, 1, 1);
        dueBest("scene 2 by 2;minutes 1;thing k;deed a k at 0 0 in 0;deed b;", 1, 0, 0, 1);
        dueBest("scene 2 by 2;minutes 1;thing k;deed a k at 0 0 in 0;deed b;wall at 1 0;", 0, 1, 3, 1);
        dueBest("scene 3 by 3;minutes 1;thing k;deed a k at 2 2 in 0;deed b;law sees<4;", 1, 0, 1, 1);
        dueBest("scene 3 by 3;minutes 1;thing k;wall at 1 0;wall at 2 0;deed a k at 2 2 in 0;deed b;law sees<4;", 0, 1, 2, 1);
        dueBest("scene 1 by 3;minutes 1;thing k;deed a k at 0 1 in 0;deed b;law sees=2;", 0, 0, 2, 1);
        dueBest("scene 1 by 3;minutes 1;thing k;deed a k at 0 0 in 0;deed b;law 1;", 0, 1, 3, 1);
        dueBest(SEATS + "law fee>1;", 0, 0, 0, 0);
        dueBest("scene 2 by 1;minutes 1;wall at 0 0;", 1, 0, 0, 0);
        dueBest("scene 2 by 2;minutes 1;wall at 0 0;wall at 1 0;", 0, 1, 0, 0);
        dueBest("scene 2 by 1;", 0, 0, 0, 0);
    }

    private void bestSeatAsked() {
        bench.words("bestSeat", "BEST SEAT what 0: x, 1: y, 2: side, 3: of how much use; NONE if there is no SEAT, or for another what.");
        HalfCourt some = Bench.court(SEATS);
        bench.dueAll("another what", -1, some.bestSeat(-1), some.bestSeat(4), some.bestSeat(Integer.MAX_VALUE), some.bestSeat(Integer.MIN_VALUE));
        String[] none = {"", "scene 1 by 1;minutes 1;wall at 0 0;", "scene 2 by 1;minutes 1;wall at 0 0;wall at 1 0;"};
        for (String text : none) {
            for (int what = -1; what < 5; what++) {
                bench.due("no SEAT in '" + text + "'", Bench.court(text).bestSeat(what), -1);
            }
        }
        StringBuilder walls = new StringBuilder("scene 6 by 2;minutes 1;");
        for (int i = 0; i < 12; i++) {
            bench.due("the last CELL without a wall", Bench.court(walls.toString()).bestSeat(0), i % 6);
            walls.append("wall at ").append(i % 6).append(' ').append(i / 6).append(';');
        }
        bench.due("12 walls of 12", Bench.court(walls.toString()).bestSeat(0), -1);
    }

    private void dueBest(String text, int x, int y, int side, int use) {
        HalfCourt court = Bench.court(text);
        bench.due("x in " + text, court.bestSeat(0), x);
        bench.due("y in " + text, court.bestSeat(1), y);
        bench.due("side in " + text, court.bestSeat(2), side);
        bench.due("use in " + text, court.bestSeat(3), use);
        bench.due("seat() says so, too", court.seat(x, y, side), use);
        HalfCourt last = Bench.court(text);
        bench.due("use alone in " + text, last.bestSeat(3), use);
    }

    private void duePlans(HalfCourt court, int deeds, int list, int fees, int rounds, int first, int turn) {
        bench.due("list(" + deeds + ", 0)", court.list(deeds, 0), list);
        bench.due("list(" + deeds + ", 1)", court.list(deeds, 1), fees);
        bench.due("rounds(" + deeds + ", 0)", court.rounds(deeds, 0), rounds);
        bench.due("rounds(" + deeds + ", 1)", court.rounds(deeds, 1), first);
        bench.due("byTurn(" + deeds + ")", court.byTurn(deeds), turn);
    }

    private void lists() {
        terms("LIST of a set of DEEDS: WITNESSES who may be HEARD, of the least fees together, "
                + "so that each two DEEDS of the set that are not TWINS are PARTED by one of them;");
        HalfCourt court = Bench.court(bits(new int[] {0, 1, 2, 3, 4}, "00:1", "11:2", "01:4"));
        duePlans(court, 0, 0, 0, 0, -1, 0);
        duePlans(court, 1, 0, 0, 0, -1, 0);
        duePlans(court, 3, 1, 1, 1, 0, 1);
        duePlans(court, 5, 2, 2, 2, 1, 2);
        duePlans(court, 15, 3, 3, 3, 0, 3);
        duePlans(court, 17, 0, 0, 0, -1, 0);
        duePlans(court, 31, 3, 3, 3, 0, 3);
        HalfCourt dear = Bench.court(bits(new int[] {0, 1, 2, 3, 4}, "00:1", "11:4", "01:4"));
        duePlans(dear, 15, 4, 4, 4, 2, 5);
        duePlans(dear, 5, 2, 4, 4, 1, 4);
        bench.due("nobody is HEARD", Bench.court(bits(new int[] {0, 1}, "00:1") + "law 0;").list(3, 0), 0);
        bench.due("nobody is there", Bench.court(bits(new int[] {0, 1})).list(3, 0), 0);
    }

    private void listsOfLikeFees() {
        terms("of like ones the least set (as bits).");
        HalfCourt court = Bench.court(bits(new int[] {0, 1, 2, 3}, "01:3", "00:1", "11:2", "01:3"));
        duePlans(court, 15, 1, 3, 3, 0, 3);
        HalfCourt two = Bench.court(bits(new int[] {0, 1, 2, 3}, "00:1", "11:2", "01:3"));
        duePlans(two, 15, 3, 3, 3, 0, 3);
        HalfCourt copies = Bench.court(bits(new int[] {0, 1}, "00:5", "00:4", "00:4"));
        duePlans(copies, 3, 2, 4, 4, 1, 5);
        HalfCourt late = Bench.court(bits(new int[] {0, 1, 2, 3}, "11:2", "01:3", "00:1"));
        duePlans(late, 15, 2, 3, 3, 0, 5);
    }

    private void listsAsked() {
        bench.words("list", "LIST of a set of DEEDS (as bits) what 0: WITNESSES as bits, 1: their fees together; NONE if one can't be.");
        HalfCourt court = Bench.court(bits(new int[] {0, 1, 2, 3}, "00:2", "11:2"));
        bench.due("the empty set", court.list(0, 0) + court.list(0, 1), 0);
        bench.due("all", court.list(15, 0), 3);
        bench.due("their fees", court.list(15, 1), 4);
        for (int set : NO_SET_OF_FOUR) {
            bench.dueAll("list(" + set + ")", -1, court.list(set, 0), court.list(set, 1));
        }
        bench.dueAll("another what", -1, court.list(15, 2), court.list(15, -1), court.list(0, 2), court.list(15, Integer.MAX_VALUE),
                court.list(15, Integer.MIN_VALUE));
        HalfCourt none = Bench.court("scene 1 by 1;minutes 1;");
        bench.due("the empty set of no DEEDS", none.list(0, 0), 0);
        bench.due("a DEED of none", none.list(1, 0), -1);
        HalfCourt eight = Bench.court(bits(new int[] {0, 1, 2, 3, 4, 5, 6, 7}, "00:2"));
        bench.due("255 of 8", eight.list(255, 0), 1);
        bench.due("256 of 8", eight.list(256, 0), -1);
    }

    private static final int[] NO_SET_OF_FOUR = {16, 17, 31, 255, 256, -1, Integer.MIN_VALUE, Integer.MAX_VALUE};

    private void roundsAreLess() {
        terms("ROUNDS of a set of DEEDS: the least fees within which, one WITNESS called behind the other (each by what was SAID), "
                + "it is known for sure which DEED of the set it is, but for TWINS:");
        // The first parts b from all others, the second d; the third parts a, b from c, d.
        HalfCourt court = Bench.court(bits(new int[] {0, 2, 1, 5}, "11:5", "22:5", "00:1"));
        duePlans(court, 15, 7, 11, 6, 2, 11);
        duePlans(court, 3, 1, 5, 5, 0, 5);
        duePlans(court, 12, 2, 5, 5, 1, 5);
        duePlans(court, 5, 4, 1, 1, 2, 1);
        duePlans(court, 6, 4, 1, 1, 2, 5);
        duePlans(court, 7, 5, 6, 6, 0, 6);
        terms("else of a WITNESS by whom some two of them are PARTED his fee and the greatest that is left, whatever he SAYS;");
        HalfCourt left = Bench.court(bits(new int[] {0, 2, 1, 5}, "00:1", "11:3", "22:7"));
        bench.due("1 and the greater of 3 and 7", left.rounds(15, 0), 8);
        bench.due("1 and 3", left.rounds(7, 0), 4);
        bench.due("1 and 7", left.rounds(13, 0), 8);
    }

    private void roundsOfTwins() {
        terms("0, if all are TWINS of one another;");
        HalfCourt court = Bench.court(bits(new int[] {0, 4, 8, 1}, "00:9"));
        bench.dueAll("TWINS", 0, court.rounds(0, 0), court.rounds(1, 0), court.rounds(3, 0), court.rounds(7, 0), court.rounds(8, 0));
        bench.dueAll("nobody is CALLED", -1, court.rounds(0, 1), court.rounds(1, 1), court.rounds(3, 1), court.rounds(7, 1), court.rounds(8, 1));
        bench.dueAll("TWINS and one more", 9, court.rounds(15, 0), court.rounds(9, 0), court.rounds(12, 0));
    }

    private void likeRounds() {
        terms("the first of these who is least is CALLED FIRST.");
        HalfCourt court = Bench.court(bits(new int[] {0, 1, 2, 3}, "00:2", "11:2", "01:4"));
        bench.due("the first who is least", court.rounds(15, 1), 0);
        HalfCourt dearer = Bench.court(bits(new int[] {0, 1, 2, 3}, "00:2", "11:2", "01:3"));
        duePlans(dearer, 15, 4, 3, 3, 2, 4);
        HalfCourt useless = Bench.court(bits(new int[] {0, 1}, "44:1", "00:3", "00:3"));
        duePlans(useless, 3, 2, 3, 3, 1, 3);
    }

    private void roundsAsked() {
        bench.words("rounds", "ROUNDS of a set of DEEDS (as bits) what 0: the fees, 1: who is CALLED FIRST (NONE if nobody); NONE if one can't be.");
        HalfCourt court = Bench.court(bits(new int[] {0, 1, 2, 3}, "00:2", "11:3"));
        bench.due("the fees", court.rounds(15, 0), 5);
        bench.due("who", court.rounds(12, 1), 0);
        bench.due("who", court.rounds(5, 1), 1);
        bench.due("nobody", court.rounds(4, 1), -1);
        for (int set : NO_SET_OF_FOUR) {
            bench.dueAll("rounds(" + set + ")", -1, court.rounds(set, 0), court.rounds(set, 1));
        }
        bench.dueAll("another what", -1, court.rounds(15, 2), court.rounds(15, -1), court.rounds(0, 2), court.rounds(15, Integer.MAX_VALUE),
                court.rounds(15, Integer.MIN_VALUE));
        bench.dueAll("256 of 8", -1, Bench.court(bits(new int[] {0, 1, 2, 3, 4, 5, 6, 7}, "00:2")).rounds(256, 0));
        HalfCourt alone = Bench.court(bits(new int[] {0, 1, 2, 3}, "00:2", "11:3"));
        bench.due("who, asked first", alone.rounds(5, 1), 1);
    }

    private void turns() {
        terms("BY TURN: likewise, but always the first WITNESS by number by whom some two of those that are left are PARTED.");
        // By turn only who is of use is called: a against b is known behind the first.
        HalfCourt turn = Bench.court(bits(new int[] {0, 1, 3}, "22:9", "00:3", "11:4"));
        duePlans(turn, 7, 6, 7, 7, 1, 7);
        HalfCourt dear = Bench.court(bits(new int[] {0, 1, 2, 3}, "00:9", "11:8", "01:3"));
        duePlans(dear, 15, 4, 3, 3, 2, 17);
        duePlans(dear, 3, 4, 3, 3, 2, 9);
        duePlans(dear, 5, 4, 3, 3, 2, 8);
        HalfCourt greatest = Bench.court(bits(new int[] {0, 2, 1, 5}, "00:1", "22:7", "11:3"));
        bench.due("1 and the greater of 7 and 3", greatest.byTurn(15), 8);
        bench.due("1 and 3", greatest.byTurn(7), 4);
        HalfCourt out = Bench.court(bits(new int[] {0, 1}, "00:9", "00:8") + "law fee<9;");
        bench.due("not who is SENT OUT", out.byTurn(3), 8);
    }

    private void turnsAsked() {
        bench.words("byTurn", "BY TURN of a set of DEEDS (as bits): the fees; NONE if one can't be.");
        HalfCourt court = Bench.court(bits(new int[] {0, 1, 2, 3}, "00:2", "11:3"));
        bench.due("the fees", court.byTurn(15), 5);
        bench.dueAll("nobody", 0, court.byTurn(0), court.byTurn(1), court.byTurn(8));
        for (int set : NO_SET_OF_FOUR) {
            bench.due("byTurn(" + set + ")", court.byTurn(set), -1);
        }
        HalfCourt eight = Bench.court(bits(new int[] {0, 1, 2, 3, 4, 5, 6, 7}, "00:2"));
        bench.due("255 of 8", eight.byTurn(255), 2);
        bench.due("256 of 8", eight.byTurn(256), -1);
    }

    private void sentOut() {
        HalfCourt court = Bench.court(bits(new int[] {0, 1, 2, 3}, "00:2", "11:2", "01:1") + "law fee=2;");
        duePlans(court, 15, 3, 4, 4, 0, 4);
        HalfCourt half = Bench.court(bits(new int[] {0, 1, 2, 3}, "00:2", "11:3") + "law fee=3;");
        duePlans(half, 15, 2, 3, 3, 1, 3);
        duePlans(half, 3, 0, 0, 0, -1, 0);
        duePlans(Bench.court(bits(new int[] {0, 1}, "00:2") + "law 0;"), 3, 0, 0, 0, -1, 0);
    }

    private void eightDeeds() {
        int[] all = {0, 1, 2, 3, 4, 5, 6, 7};
        HalfCourt court = Bench.court(bits(all, "22:4", "11:2", "00:1", "01:9", "12:9", "33:1", "44:1", "34:2", "33:1", "02:8"));
        duePlans(court, 255, 7, 7, 7, 0, 7);
        duePlans(court, 128 + 64 + 2, 6, 3, 3, 1, 5);
        HalfCourt cheap = Bench.court(bits(all, "22:4", "11:2", "00:1", "01:9", "12:9", "33:1", "44:1", "34:2", "33:1", "02:6"));
        duePlans(cheap, 255, 512, 6, 6, 9, 7);
        // Another CASE on the same object: nothing of the one before is left.
        Bench.tell(cheap, bits(all, "00:50"));
        duePlans(cheap, 255, 1, 50, 50, 0, 50);
        Bench.tell(cheap, bits(all));
        duePlans(cheap, 255, 0, 0, 0, -1, 0);
    }

    /** Each DEED but the first is seen by one WITNESS alone, so that all of these are called; three more are of no use. */
    private void tenWitnesses() {
        StringBuilder text = new StringBuilder("scene 3 by 1;minutes 5;thing k;deed none;");
        for (int i = 0; i < 7; i++) {
            text.append("deed d").append((char) ('a' + i)).append(i < 5 ? " k at 0 0 in " : " k at 2 0 in ").append(i % 5).append(';');
        }
        int[] minutes = {2, 3, 4, 0, 1, 2, 3, 4, 0, 1};
        for (int w = 0; w < 10; w++) {
            text.append("witness w").append((char) ('a' + w)).append(" at 1 0 looks ").append(w >= 3 && w < 8 ? "left" : "right")
                    .append(" from ").append(minutes[w]).append(" to ").append(minutes[w]).append(" fee ").append(w < 3 ? 1 : 99).append(';');
        }
        HalfCourt court = Bench.court(text.toString());
        duePlans(court, 255, 1016, 693, 693, 3, 693);
        duePlans(court, 254, 504, 594, 594, 3, 594);
        duePlans(court, 129, 512, 99, 99, 9, 99);
    }
}
