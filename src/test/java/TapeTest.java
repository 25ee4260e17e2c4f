/** Promises 1 to 5 and 30, and an object's 512 calls: a new object, the TAPE, what trial() keeps and leaves, the counts. */
public final class TapeTest {
    private static final String CASE = "scene 3 by 2;minutes 2;wall at 0 0;thing k;thing h;thing m;deed a k at 1 0 in 0;deed b;"
            + "witness w at 2 1 looks left from 0 to 1 fee 3;law sees + (1);";
    private static final int BLANKS = 0x20202020;

    private final Bench bench = new Bench("TapeTest");

    public static void main(String[] args) {
        TapeTest test = new TapeTest();
        test.constant();
        test.newObject();
        test.bytesInOrder();
        test.feedTooMuch();
        test.cutting();
        test.cuttingWrong();
        test.trialTakesTheTape();
        test.trialEmpties();
        test.nothingIsLeft();
        test.noLawIsLeft();
        test.fullTextsInARow();
        test.faultsLeaveAll();
        test.faultsTold();
        test.counts();
        test.manyCalls();
        test.bench.close();
    }

    private void constant() {
        bench.words("Terms", "The constants: `NONE = -1`: There is none.");
        bench.due("NONE", HalfCourt.NONE, -1);
    }

    private void newObject() {
        bench.words("A new object", "`HalfCourt()`: An empty CASE.");
        HalfCourt court = new HalfCourt();
        for (int what = 0; what <= 10; what++) {
            bench.due("about(" + what + ")", court.about(what), 0);
        }
        bench.due("fault(0)", court.fault(0), 0);
        bench.dueAll("NONE", -1, court.fault(1), court.edge(0, 0, 0, 0), court.witness(0, 0), court.scene(0, 0, 0, 0),
                court.state(0, 0, 0, 0, 0), court.call(0, 0), court.liars(0, 0), court.fewest(0, 0), court.fewest(1, 0),
                court.sure(0, 0, 0, false, 0), court.sure(0, 0, 0, true, 0), court.struck(0, 0), court.struck(1, 0),
                court.apart(0, 0), court.blind(0), court.seat(0, 0, 0), court.bestSeat(0), court.bestSeat(3), court.byTurn(1),
                court.parted(0, 0), court.parts(0, 0, 0), court.list(1, 0), court.rounds(1, 0), court.rounds(0, 1),
                court.back(0), court.back(1), court.back(2), court.end(1));
        bench.dueAll("0", 0, court.fits(0), court.twice(0), court.list(0, 0), court.list(0, 1), court.rounds(0, 0),
                court.byTurn(0), court.end(0), court.later(0), court.image(0), court.back(0), court.trial());
        bench.due("untell", court.untell(0), false);
        HalfCourt other = new HalfCourt();
        other.feed(1, 2, 3, 4, 5);
        other.later(9);
        bench.dueAll("objects have nothing in common", 0, court.about(8), court.about(9));
    }

    private void bytesInOrder() {
        bench.words("feed", "Twenty bytes come behind those on the TAPE, of each number the highest first: how many there are;");
        HalfCourt court = new HalfCourt();
        bench.due("feed", court.feed(0x7363656e, 0x65203620, 0x62792035, 0x3b6d696e, 0x75746573), 20);
        bench.due("feed", court.feed(0x20343b40, 0xffffffff, 0x80808080, 0, -1), 40);
        bench.due("trial", court.trial(), -1);
        bench.due("fault(0)", court.fault(0), 1);
        bench.due("fault(1)", court.fault(1), 23);
        bench.due("end", court.end(23), 23);
        bench.due("trial", court.trial(), 0);
        bench.dueAll("6 by 5, 4 MINUTES", 0, court.about(0) - 6, court.about(1) - 5, court.about(2) - 4);
        // A number that is not a TOKEN, in each place of the twenty.
        for (int at = 0; at < 20; at++) {
            int[] five = {BLANKS, BLANKS, BLANKS, BLANKS, BLANKS};
            five[at / 4] ^= 0xaa << 24 - at % 4 * 8;
            court.end(0);
            bench.due("twenty", court.feed(five[0], five[1], five[2], five[3], five[4]), 20);
            bench.due("a byte above 127 is no blank", court.trial(), -1);
            bench.due("its place", court.fault(1), at);
        }
    }

    private void feedTooMuch() {
        bench.words("feed", "NONE, and nothing comes, if there would be more than 1,700.");
        HalfCourt court = new HalfCourt();
        for (int i = 1; i <= 85; i++) {
            bench.due("feed " + i, court.feed(BLANKS, BLANKS, BLANKS, BLANKS, BLANKS), 20 * i);
        }
        bench.due("feed 86", court.feed(0, 0, 0, 0, 0), -1);
        bench.due("about(9) behind it", court.about(9), 1700);
        for (int left = 1; left < 20; left++) {
            court.end(1700 - left);
            bench.due(left + " bytes are not enough", court.feed(0, 0, 0, 0, 0), -1);
            bench.due("nothing came", court.about(9), 1700 - left);
        }
        bench.due("end(1680)", court.end(1680), 1680);
        bench.due("20 are", court.feed(0, 0, 0, 0, 0), 1700);
        bench.due("trial", court.trial(), -1);
        bench.due("the FAULT", court.fault(0), 1);
        bench.due("is where the zeroes come, not where they did not", court.fault(1), 1680);
        court.end(1680);
        bench.due("blanks alone are an empty CASE", court.trial(), 0);
        bench.due("a TAPE that was taken is empty", court.feed(0, 0, 0, 0, 0), 20);
    }

    private void cutting() {
        bench.words("end", "The TAPE has its first n bytes: n;");
        HalfCourt court = new HalfCourt();
        bench.due("end(0) of none", court.end(0), 0);
        court.feed(0x7363656e, 0x65203620, 0x62792035, 0x3b6d696e, 0x75746573);
        bench.due("end(20)", court.end(20), 20);
        bench.due("end(13)", court.end(13), 13);
        bench.due("trial", court.trial(), 0);
        bench.due("across", court.about(0), 6);
        Bench.feed(court, "scene 1 by 1;scene");
        bench.due("end(8)", court.end(8), 8);
        Bench.feed(court, "by 4;");
        bench.due("what comes next comes behind them", court.about(9), 13);
        bench.due("trial", court.trial(), 0);
        bench.due("up", court.about(1), 4);
    }

    private void cuttingWrong() {
        bench.words("end", "NONE, doing nothing, if it has not so many, or n is below 0.");
        HalfCourt court = new HalfCourt();
        bench.due("end(1) of none", court.end(1), -1);
        bench.due("end(-1) of none", court.end(-1), -1);
        court.feed(0x7363656e, 0x65203620, 0x62792035, 0x3b6d696e, 0x75746573);
        bench.dueAll("end", -1, court.end(21), court.end(-1), court.end(Integer.MIN_VALUE), court.end(Integer.MAX_VALUE), court.end(1700));
        bench.due("they do nothing", court.about(9), 20);
        bench.due("end(13)", court.end(13), 13);
        bench.due("end(14) then", court.end(14), -1);
        bench.due("end(20) then", court.end(20), -1);
        bench.due("it does nothing", court.about(9), 13);
    }

    private void trialTakesTheTape() {
        bench.words("trial", "The TAPE (empty then) is the CASE");
        HalfCourt court = new HalfCourt();
        bench.due("an empty TAPE", court.trial(), 0);
        Bench.feed(court, CASE);
        bench.due("a CASE: how many WITNESSES", court.trial(), 1);
        bench.words("trial", "how many WITNESSES;");
        bench.due("the TAPE is empty", court.about(9), 0);
        bench.due("so it has no first byte", court.end(1), -1);
        bench.due("across", court.about(0), 3);
        bench.due("again, of nothing", court.trial(), 0);
        bench.due("across", court.about(0), 0);
        bench.due("none", Bench.tell(court, "scene 1 by 1;minutes 1;"), 0);
        StringBuilder ten = new StringBuilder("scene 1 by 1;minutes 1;");
        for (char name = 'a'; name < 'k'; name++) {
            ten.append("witness ").append(name).append(" at 0 0 looks up from 0 to 0 fee 1;");
        }
        bench.due("ten", Bench.tell(court, ten.toString()), 10);
    }

    private void trialEmpties() {
        bench.words("trial", "(STATEMENTS are none, BOXES are empty then; the TIME stays):");
        HalfCourt court = Bench.court(CASE);
        court.later(7);
        court.state(0, 1, 0, 0, 1);
        court.state(0, 1, 0, 0, 1);
        for (int box = 0; box < 3; box++) {
            bench.due("image", court.image(box), 2);
        }
        bench.due("the same CASE again", Bench.tell(court, CASE), 1);
        bench.due("STATEMENTS are none", court.about(7), 0);
        bench.due("the TIME stays", court.about(8), 7);
        bench.due("none can be UNTOLD", court.untell(0) || court.untell(1), false);
        bench.due("all DEEDS FIT", court.fits(7), 3);
        for (int box = 0; box < 3; box++) {
            bench.due("BOX " + box + " is empty", court.back(box), -1);
        }
        bench.due("the TIME still stays", court.about(8), 7);
        bench.due("the first STATEMENT's number", court.state(0, 1, 0, 0, 0), 0);
        bench.due("it is TOLD at the TIME that stayed", court.fits(6), 3);
        bench.due("it counts at 7", court.fits(7), 2);
        court.image(1);
        bench.due("an empty TAPE's trial, too", court.trial(), 0);
        bench.due("STATEMENTS are none", court.about(7), 0);
        bench.due("the BOX is empty", court.back(1), -1);
    }

    /** Two CASES are held in turn, so that what is left of one would show in the next but one, or behind a FAULT. */
    private void nothingIsLeft() {
        String full = "scene 6 by 6;minutes 5;wall at 1 0;wall at 3 3;fog 0 far 0;fog 4 far 0;thing k;thing h;deed a k at 0 0 in 0;"
                + "deed b h at 0 0 in 0;deed c;witness w at 2 0 looks left from 0 to 4 fee 9;witness v at 2 5 looks up from 0 to 0 fee 8;"
                + "law 0 or fee=9;";
        String plain = "scene 3 by 1;minutes 5;thing x;deed x;deed y x at 0 0 in 0;witness y at 2 0 looks left from 0 to 0 fee 2;";
        String[] between = {full, "", "scene 1 by 1;", full + "@", "scene 6 by 6;minutes 5;law 0 or 1", plain};
        for (String one : between) {
            HalfCourt court = Bench.court(full);
            Bench.tell(court, one);
            Bench.tell(court, one);
            bench.due("trial", Bench.tell(court, plain), 1);
            int[] counts = {3, 1, 5, 0, 1, 2, 1, 0, 0, 0, 0};
            for (int what = 0; what < counts.length; what++) {
                bench.due("about(" + what + ")", court.about(what), counts[what]);
            }
            bench.due("no wall, no fog, its own look", court.edge(0, 0, 0, 0), 0);
            bench.due("SEES", court.witness(0, 0), 2);
            bench.due("no law is left", court.witness(0, 2), 1);
            bench.due("BLIND", court.blind(0), 1);
            bench.due("BLIND", court.blind(4), 3);
            bench.due("x", court.scene(0, 0, 0, 0), 0);
            bench.due("y", court.scene(1, 0, 0, 0), 1);
            bench.dueAll("PARTED by one", 1, court.parted(0, 1), court.apart(0, 1), court.list(3, 0), court.about(6));
            bench.due("its fee", court.rounds(3, 0), 2);
            bench.dueAll("no more DEEDS, WITNESSES", -1, court.parted(0, 2), court.witness(1, 0), court.list(4, 0));
            bench.due("and the first SEAT is best", court.bestSeat(3), 0);
        }
    }

    private void noLawIsLeft() {
        String plain = "scene 3 by 1;minutes 1;thing x;deed x;deed y x at 0 0 in 0;witness y at 1 0 looks left from 0 to 0 fee 2;";
        HalfCourt court = new HalfCourt();
        String[] laws = {"", "law 0;", "law 1;", "law 0 and 1;", "law not 0;", "law 1;", "law not 1;", "law 0;", "law fee=2;", "law fee=3;"};
        int[] heard = {1, 0, 1, 0, 1, 1, 0, 0, 1, 0};
        for (int first = 0; first < laws.length; first++) {
            for (int next = 0; next < laws.length; next++) {
                bench.due("trial", Bench.tell(court, plain + laws[first]), 1);
                bench.due("HEARD by '" + laws[first] + "'", court.witness(0, 2), heard[first]);
                Bench.tell(court, plain + laws[next] + "@");
                bench.due("HEARD still by '" + laws[first] + "'", court.witness(0, 2), heard[first]);
                bench.due("trial", Bench.tell(court, plain + laws[next]), 1);
                bench.due("HEARD by '" + laws[next] + "'", court.witness(0, 2), heard[next]);
            }
        }
        HalfCourt silent = Bench.court(plain);
        Bench.tell(silent, plain + "law 0;");
        bench.due("nobody is HEARD any more", silent.parted(0, 1), 0);
        bench.due("nor SEES for the court", silent.blind(0), 3);
        bench.due("nor may say", silent.state(0, 0, 0, 0, 0), -1);
        bench.due("the SEAT is judged by the new law", silent.bestSeat(3), 0);
    }

    /** As many of each sort as can be; of what the ones before have told, nothing counts. */
    private void fullTextsInARow() {
        StringBuilder text = new StringBuilder("scene 6 by 6;minutes 5;");
        for (int i = 0; i < 12; i++) {
            text.append("wall at ").append(i % 6).append(' ').append(i / 6).append(';');
        }
        for (int i = 0; i < 5; i++) {
            text.append("fog ").append(i).append(" far 9;");
        }
        text.append("thing a;thing b;thing c;thing d;");
        int placed = 0;
        for (int deed = 0; deed < 8; deed++) {
            text.append("deed ").append((char) ('a' + deed));
            for (int i = 0; i < 8 && placed < 60; i++) {
                text.append(' ').append((char) ('a' + i % 4)).append(" at ").append(deed % 6).append(" 5 in").append(i / 4);
                placed++;
            }
            text.append(';');
        }
        for (int w = 0; w < 10; w++) {
            text.append("witness ").append((char) ('a' + w)).append(" at 0 5 looks down from 0 to 4 fee 9;");
        }
        text.append("law 1").append("+1".repeat(29)).append(';');
        HalfCourt court = new HalfCourt();
        int[] counts = {6, 6, 5, 12, 4, 8, 10, 0, 0, 0, 30};
        for (int time = 0; time < 5; time++) {
            bench.due("60 THINGS of DEEDS", placed, 60);
            bench.due("trial " + time + " of " + text.length() + " bytes", Bench.tell(court, text.toString()), 10);
            for (int what = 0; what < counts.length; what++) {
                bench.due("about(" + what + ")", court.about(what), counts[what]);
            }
            bench.due("a FAULT at the end", Bench.tell(court, text + "fog"), -1);
            bench.due("is there", court.fault(1), text.length());
        }
        for (int time = 0; time < 3; time++) {
            court.end(0);
            bench.due("an empty text", court.trial(), 0);
            for (int what = 0; what <= 10; what++) {
                bench.due("about(" + what + ")", court.about(what), 0);
            }
        }
    }

    private void faultsLeaveAll() {
        bench.words("trial", "NONE: a FAULT (all stays).");
        HalfCourt court = Bench.court(CASE);
        court.later(5);
        bench.due("state", court.state(0, 1, 0, 0, 1), 0);
        court.image(2);
        court.state(0, 1, 0, 0, 0);
        int best = court.bestSeat(3);
        bench.due("a FAULT", Bench.tell(court, "scene 1 by 1;wall"), -1);
        bench.due("the TAPE stays", court.about(9), 17);
        int[] counts = {3, 2, 2, 1, 3, 2, 1, 2, 5, 17, 3};
        for (int what = 0; what < counts.length; what++) {
            bench.due("about(" + what + ") stays", court.about(what), counts[what]);
        }
        bench.due("it sees as before", court.edge(0, 1, 0, 0), 0);
        bench.due("the STATEMENTS are as before", court.twice(5), 1);
        bench.due("the best SEAT is", court.bestSeat(3), best);
        bench.due("the BOX stays", court.back(2), 1);
        bench.due("the same FAULT again", court.trial(), -1);
        bench.due("the TAPE still stays", court.end(17), 17);
        bench.due("end", court.end(13), 13);
        bench.due("now it is a CASE", court.trial(), 0);
        bench.due("across", court.about(0), 1);
    }

    private void faultsTold() {
        bench.words("fault", "Of the latest trial() what 0: its FAULT (0), 1: its place (NONE). NONE for another what.");
        HalfCourt court = new HalfCourt();
        bench.due("no trial yet: fault(0)", court.fault(0), 0);
        bench.due("no trial yet: fault(1)", court.fault(1), -1);
        Bench.tell(court, "scene 1 by 1;wall");
        bench.due("fault(0)", court.fault(0), 2);
        bench.due("fault(1)", court.fault(1), 13);
        bench.dueAll("another what", -1, court.fault(2), court.fault(-1), court.fault(Integer.MAX_VALUE), court.fault(Integer.MIN_VALUE));
        court.end(6);
        court.feed(0, 0, 0, 0, 0);
        bench.due("it is the latest trial's, whatever came behind it", court.fault(1), 13);
        court.trial();
        bench.due("another trial's FAULT", court.fault(0), 1);
        bench.due("at its place", court.fault(1), 6);
        Bench.tell(court, "@");
        bench.due("a place 0", court.fault(1), 0);
        bench.due("a CASE", Bench.tell(court, "scene 1 by 1;"), 0);
        bench.due("fault(0) of it", court.fault(0), 0);
        bench.due("fault(1) of it", court.fault(1), -1);
        bench.dueAll("another what of it", -1, court.fault(2), court.fault(-1));
    }

    private void counts() {
        bench.words("about", "What 0: across, 1: up, 2: MINUTES, 3: walls, 4: THINGS, 5: DEEDS, 6: WITNESSES, 7: STATEMENTS, "
                + "8: the TIME, 9: bytes on the TAPE, 10: units of the law.");
        HalfCourt court = Bench.court(CASE);
        int[] due = {3, 2, 2, 1, 3, 2, 1, 0, 0, 0, 3};
        for (int what = 0; what < due.length; what++) {
            bench.due("about(" + what + ")", court.about(what), due[what]);
        }
        court.later(12);
        court.call(0, 0);
        court.feed(0, 0, 0, 0, 0);
        bench.due("about(7)", court.about(7), 1);
        bench.due("about(8)", court.about(8), 12);
        bench.due("about(9)", court.about(9), 20);
        court.untell(0);
        bench.due("about(7) with one that is UNTOLD", court.about(7), 1);
        bench.words("about", "NONE for another what.");
        bench.dueAll("about", -1, court.about(-1), court.about(11), court.about(Integer.MAX_VALUE), court.about(Integer.MIN_VALUE));
    }

    private void manyCalls() {
        bench.words("What it is", "An object is used for at most 512 calls after it has been made;");
        HalfCourt court = new HalfCourt();
        for (int i = 0; i < 10; i++) {
            court.feed(BLANKS, BLANKS, BLANKS, BLANKS, BLANKS);
        }
        for (int i = 10; i < 511; i++) {
            bench.due("call " + (i + 1), court.later(i % 7), laterUpTo(i));
        }
        bench.due("the 512th call", court.about(8), laterUpTo(510));
        bench.words("What it is", "what later calls answer is free.");
        for (int i = 0; i < 600; i++) {
            court.feed(i, i, i, i, i);
            court.trial();
            court.later(1000);
            court.image(i % 4);
            court.back(i % 4);
        }
        bench.due("but they do answer", court.about(-1), -1);
    }

    private static int laterUpTo(int last) {
        int sum = 0;
        for (int i = 10; i <= last; i++) {
            sum += i % 7;
        }
        return sum;
    }
}
