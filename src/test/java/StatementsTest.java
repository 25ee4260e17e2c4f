/** Promises 9 to 18, 28 and 29, and "Terms" of them: what was said, undone, known in two times, and images of it. */
public final class StatementsTest {
    private static final String CASE = "scene 4 by 2;minutes 2;thing k;thing h;thing m;law sees<13;"
            + "deed a k at 0 0 in 0 h at 0 0 in 0 k at 1 0 in 1 m at 1 1 in 0;"
            + "deed b k at 0 0 in 0 h at 1 0 in 0;"
            + "deed c h at 3 0 in 0;"
            + "witness u at 2 0 looks left from 0 to 1 fee 3;"
            + "witness v at 2 0 looks right from 0 to 0 fee 2;"
            + "witness w at 3 0 looks left from 0 to 0 fee 5;";
    private static final String SENT_OUT = CASE + "witness x at 3 0 looks left from 0 to 1 fee 1;";
    private static final int[] FAR_OFF = {Integer.MIN_VALUE, Integer.MAX_VALUE};

    private final Bench bench = new Bench("StatementsTest");

    public static void main(String[] args) {
        StatementsTest test = new StatementsTest();
        test.fortyAtMost();
        test.timeGoesOn();
        test.untoldAtOneTime();
        test.ofWhatHeSees();
        test.knownInTwoTimes();
        test.calledInEarnest();
        test.orderOfTheCalled();
        test.lastOfAll();
        test.stating();
        test.statingWrong();
        test.calling();
        test.callingWrong();
        test.untelling();
        test.laterOn();
        test.fitting();
        test.lying();
        test.fewestLiars();
        test.beingSure();
        test.sayingTwice();
        test.striking();
        test.judgingForty();
        test.images();
        test.backToImages();
        test.wholeImages();
        test.bench.close();
    }

    private void terms(String words) {
        bench.words("Terms", words);
    }

    private void fortyAtMost() {
        terms("==== 3. STATEMENTS, 40 at most,");
        HalfCourt court = Bench.court(CASE);
        for (int i = 0; i < 40; i++) {
            bench.due("state", court.state(0, 0, 0, 0, 0), i);
        }
        bench.due("a 41st", court.state(0, 0, 0, 0, 0), -1);
        bench.due("of another", court.state(1, 3, 0, 0, 0), -1);
        bench.due("40", court.about(7), 40);
        bench.due("one is UNTOLD", court.untell(39), true);
        bench.due("it is one of them still", court.state(0, 0, 0, 0, 0), -1);
        bench.due("40", court.about(7), 40);
    }

    private void timeGoesOn() {
        terms("are TOLD at a TIME (0 at first, goes on),");
        HalfCourt court = Bench.court(CASE);
        bench.due("0 at first", court.about(8), 0);
        court.state(0, 0, 0, 0, 3);
        court.later(1);
        court.state(0, 1, 0, 0, 0);
        court.later(1000);
        court.state(0, 1, 1, 0, 0);
        int[][] due = {{-1, 7}, {0, 1}, {1, 1}, {1000, 1}, {1001, 0}};
        for (int[] d : due) {
            bench.due("fits(" + d[0] + ")", court.fits(d[0]), d[1]);
        }
        bench.due("goes on", court.later(5), 1006);
    }

    private void untoldAtOneTime() {
        terms("UNTOLD at a later one or the same:");
        HalfCourt court = Bench.court(CASE);
        court.later(3);
        court.state(0, 0, 0, 0, 0);
        bench.due("fits", court.fits(3), 4);
        bench.due("untell at the same", court.untell(0), true);
        bench.dueAll("it never counts", 7, court.fits(2), court.fits(3), court.fits(4), court.fits(Integer.MAX_VALUE));
        court.state(0, 0, 0, 0, 0);
        court.later(1);
        bench.due("untell at a later one", court.untell(1), true);
        bench.dueAll("it counts at 3 alone", 7, court.fits(2), court.fits(3) + 3, court.fits(4), court.fits(5));
    }

    private void ofWhatHeSees() {
        terms("a WITNESS said of a CELL in a MINUTE (that he SEES) which THINGS (as bits) were there.");
        HalfCourt court = Bench.court(SENT_OUT);
        int number = 0;
        for (int w = 0; w < 4; w++) {
            for (int i = 0; i < 16; i++) {
                int x = i % 4;
                int y = i / 4 % 2;
                boolean sees = court.edge(w, x, y, i / 8) == 0;
                bench.due("state " + w + " of " + i, court.state(w, x, y, i / 8, i % 8), sees ? number : -1);
                number += sees ? 1 : 0;
            }
        }
        bench.due("8, 2, 6, 12 are seen", number, 28);
        HalfCourt bits = Bench.court(CASE);
        for (int things = 0; things < 8; things++) {
            bits.state(0, 0, 0, 0, things);
            bench.due("some of the THINGS are not all: " + things, bits.fits(things), things == 3 ? 1 : things == 1 ? 2 : things == 0 ? 4 : 0);
            bits.untell(things);
            bits.later(1);
        }
    }

    private void knownInTwoTimes() {
        terms("As known at k those count that were TOLD at k or before, not UNTOLD at k or before.");
        HalfCourt court = Bench.court(CASE);
        court.later(5);
        court.state(0, 0, 0, 0, 3);
        court.later(5);
        court.state(0, 0, 0, 0, 1);
        court.later(5);
        court.untell(0);
        court.later(5);
        int[][] due = {{Integer.MIN_VALUE, 7}, {-1, 7}, {0, 7}, {4, 7}, {5, 1}, {6, 1}, {9, 1}, {10, 0}, {14, 0}, {15, 2}, {16, 2},
            {20, 2}, {99, 2}, {Integer.MAX_VALUE, 2}};
        for (int[] d : due) {
            bench.due("fits(" + d[0] + ")", court.fits(d[0]), d[1]);
        }
        bench.dueAll("twice", 0, court.twice(9), court.twice(10) - 1, court.twice(14) - 1, court.twice(15));
        bench.dueAll("liars by a", 0, court.liars(0, 4), court.liars(0, 9), court.liars(0, 10) - 1, court.liars(0, 15) - 1);
        bench.dueAll("liars by b", 0, court.liars(1, 4), court.liars(1, 5) - 1, court.liars(1, 14) - 1, court.liars(1, 15));
        bench.dueAll("fewest", 0, court.fewest(0, 9), court.fewest(0, 10) - 1, court.fewest(0, 15));
        bench.dueAll("by", 0, court.fewest(1, 4), court.fewest(1, 5), court.fewest(1, 14), court.fewest(1, 15) - 1);
        bench.dueAll("struck", 0, court.struck(0, 9), court.struck(0, 10) - 1, court.struck(0, 15));
        bench.dueAll("by", 0, court.struck(1, 10), court.struck(1, 15) - 1, court.struck(1, Integer.MAX_VALUE) - 1);
        bench.due("sure at 4", court.sure(1, 1, 0, false, 4), 0);
        bench.due("sure at 5", court.sure(1, 1, 0, false, 5), 4);
        bench.due("sure at 10", court.sure(1, 1, 0, false, 10), -1);
        bench.due("sure at 15", court.sure(1, 0, 0, true, 15), 2);
    }

    private void calledInEarnest() {
        terms("CALLED in earnest by a DEED (that was so): a WITNESS who may be HEARD STATES all that he SEES,");
        HalfCourt court = Bench.court(CASE);
        bench.due("call(0, 0)", court.call(0, 0), 3);
        bench.due("STATEMENTS", court.about(7), 3);
        bench.due("call(1, 0): he SEES none of it", court.call(1, 0), 0);
        bench.due("call(1, 2)", court.call(1, 2), 1);
        bench.due("call(2, 1)", court.call(2, 1), 2);
        bench.due("call(2, 0): in MINUTE 0 alone", court.call(2, 0), 2);
        bench.due("STATEMENTS", court.about(7), 8);
        HalfCourt one = Bench.court(CASE);
        one.call(0, 1);
        bench.due("it was so by b alone", one.fits(0), 2);
        bench.due("nobody lies by b", one.liars(1, 0), 0);
        HalfCourt silent = Bench.court(CASE);
        bench.due("nothing to be seen, nothing is said", silent.call(0, 2), 0);
        bench.due("so that all FIT", silent.fits(0), 7);
    }

    /** Without STATEMENT i the DEED that differs from the CALLED one there alone FITS. */
    private void orderOfTheCalled() {
        terms("CELL by CELL that has THINGS in it by that DEED (MINUTE by MINUTE, by y, then x).");
        String text = "scene 4 by 3;minutes 2;thing k;thing h;thing m;law 1;witness u at 3 0 looks left from 0 to 1 fee 3;";
        String[] spots = {"k at 2 0 in 0", "h at 0 1 in 0", "m at 0 2 in 0", "h at 0 0 in 1", "m at 1 0 in 1", "k at 2 0 in 1"};
        int[] mixed = {5, 1, 3, 0, 4, 2};
        StringBuilder all = new StringBuilder(text + "deed all");
        for (int i : mixed) {
            all.append(' ').append(spots[i]);
        }
        all.append(';');
        for (int left = 0; left < 6; left++) {
            all.append("deed w").append((char) ('a' + left));
            for (int i : mixed) {
                all.append(i == left ? "" : " " + spots[i]);
            }
            all.append(';');
        }
        HalfCourt court = Bench.court(all.toString());
        for (int left = 0; left < 6; left++) {
            bench.due("call", court.call(0, 0), 6);
            bench.due("by all alone", court.fits(10 * left), 1);
            court.untell(6 * left + left);
            bench.due("without STATEMENT " + left, court.fits(10 * left), 1 | 2 << left);
            for (int i = 0; i < 6; i++) {
                court.untell(6 * left + i);
            }
            court.later(10);
        }
        HalfCourt both = Bench.court(text + "deed a k at 1 1 in 0 h at 1 1 in 0;deed b k at 1 1 in 0;");
        bench.due("two THINGS in one CELL are one STATEMENT", both.call(0, 0), 1);
        bench.due("of both", both.fits(0), 1);
    }

    /** All rows full: the last WITNESS, DEED, THING, MINUTE and CELL must not run into a neighbour's. */
    private void lastOfAll() {
        StringBuilder text = new StringBuilder("scene 6 by 6;minutes 5;thing a;thing b;thing c;thing d;law 1;");
        for (int deed = 0; deed < 8; deed++) {
            text.append("deed ").append((char) ('a' + deed)).append(" a at 0 0 in 0 d at 5 5 in 4;");
        }
        for (int w = 0; w < 10; w++) {
            text.append("witness ").append((char) ('a' + w)).append(w % 2 == 0 ? " at 5 0 looks left" : " at 0 5 looks right")
                    .append(" from 0 to 4 fee 1;");
        }
        HalfCourt court = Bench.court(text.toString());
        for (int w = 0; w < 10; w++) {
            for (int deed = 0; deed < 8; deed += 7) {
                bench.due("call(" + w + ", " + deed + ")", court.call(w, deed), 1);
            }
        }
        bench.due("all so", court.fits(0), 255);
        bench.due("TWICE", court.twice(0), 0);
        court.state(9, 5, 5, 4, 15);
        bench.due("TWICE", court.twice(0), 512);
        bench.due("liars by the last", court.liars(7, 0), 512);
    }

    private void stating() {
        bench.words("state", "A STATEMENT: its number;");
        HalfCourt court = Bench.court(CASE);
        bench.due("state", court.state(0, 0, 0, 0, 3), 0);
        bench.due("the same again", court.state(0, 0, 0, 0, 3), 1);
        bench.due("nothing there", court.state(1, 3, 1, 0, 0), 2);
        bench.due("all THINGS", court.state(0, 0, 0, 0, 7), 3);
        bench.due("behind a call of 3", court.call(0, 0) + court.state(0, 0, 0, 0, 7), 10);
        court.untell(7);
        bench.due("an UNTOLD one keeps its number", court.state(0, 0, 0, 0, 7), 8);
    }

    private void statingWrong() {
        bench.words("state", "NONE, doing nothing, if one can't be, he does not SEE it, he is SENT OUT, or there are 40.");
        HalfCourt court = Bench.court(CASE);
        int[][] wrong = {{-1, 0, 0, 0, 0}, {3, 0, 0, 0, 0}, {10, 0, 0, 0, 0}, {0, -1, 0, 0, 0}, {0, 4, 0, 0, 0}, {0, 0, -1, 0, 0},
            {0, 0, 2, 0, 0}, {0, 0, 0, -1, 0}, {0, 0, 0, 2, 0}, {0, 0, 0, 0, -1}, {0, 0, 0, 0, 8}, {0, 0, 0, 0, 9}, {0, 0, 0, 0, 15},
            {0, 2, 0, 0, 0}, {0, 3, 0, 0, 0}, {1, 3, 0, 1, 0}};
        for (int[] w : wrong) {
            bench.due("state can't be", court.state(w[0], w[1], w[2], w[3], w[4]), -1);
        }
        for (int far : FAR_OFF) {
            bench.dueAll("state can't be", -1, court.state(far, 0, 0, 0, 0), court.state(0, far, 0, 0, 0), court.state(0, 0, far, 0, 0),
                    court.state(0, 0, 0, far, 0), court.state(0, 0, 0, 0, far));
        }
        bench.due("they did nothing", court.about(7), 0);
        bench.due("the first number", court.state(0, 0, 0, 0, 0), 0);
        HalfCourt out = Bench.court(SENT_OUT.replace("sees<13", "sees<12"));
        bench.due("he SEES it", out.edge(3, 0, 0, 0), 0);
        bench.due("SENT OUT", out.state(3, 0, 0, 0, 3), -1);
        bench.due("nothing was said", out.about(7), 0);
        bench.due("HEARD", Bench.court(SENT_OUT).state(3, 0, 0, 0, 3), 0);
        HalfCourt four = Bench.court(CASE + "thing n;");
        bench.due("15 of 4 THINGS", four.state(0, 0, 0, 0, 15), 0);
        bench.due("16 of 4 THINGS", four.state(0, 0, 0, 0, 16), -1);
        HalfCourt bare = Bench.court("scene 2 by 1;minutes 1;witness u at 1 0 looks left from 0 to 0 fee 3;");
        bench.due("no THINGS at all", bare.state(0, 0, 0, 0, 0), 0);
        bench.due("none to be told", bare.state(0, 0, 0, 0, 1), -1);
    }

    private void calling() {
        bench.words("call", "A WITNESS is CALLED by a DEED: how many STATEMENTS;");
        HalfCourt court = Bench.court(CASE);
        bench.due("three", court.call(0, 0), 3);
        bench.due("three more", court.call(0, 0), 3);
        bench.due("none", court.call(1, 0), 0);
        bench.due("six in all", court.about(7), 6);
        court.later(4);
        court.call(1, 2);
        bench.due("they are TOLD at the TIME", court.fits(3), 1);
        bench.due("of the call", court.fits(4), 0);
    }

    private void callingWrong() {
        bench.words("call", "NONE, doing nothing, if one can't be, he is SENT OUT, or there would be more than 40.");
        HalfCourt court = Bench.court(SENT_OUT.replace("sees<13", "sees<12"));
        bench.dueAll("call can't be", -1, court.call(-1, 0), court.call(4, 0), court.call(10, 0), court.call(0, -1), court.call(0, 3),
                court.call(0, 8));
        for (int far : FAR_OFF) {
            bench.dueAll("call can't be", -1, court.call(far, 0), court.call(0, far));
        }
        bench.due("SENT OUT", court.call(3, 0), -1);
        bench.due("SENT OUT, with nothing to say", court.call(3, 2), -1);
        bench.due("they did nothing", court.about(7), 0);
        for (int said = 36; said <= 40; said++) {
            HalfCourt near = Bench.court(CASE);
            for (int i = 0; i < said; i++) {
                near.state(0, 0, 0, 0, 0);
            }
            bench.due("a call of 3 on " + said, near.call(0, 0), said <= 37 ? 3 : -1);
            bench.due("all or none", near.about(7), said <= 37 ? said + 3 : said);
            bench.due("a call of 0", near.call(1, 0), 0);
        }
        HalfCourt full = Bench.court(CASE);
        for (int i = 0; i < 38; i++) {
            full.state(0, 0, 0, 0, 0);
            full.untell(i);
        }
        bench.due("38 that are UNTOLD and 3", full.call(0, 0), -1);
        bench.due("and 2", full.call(2, 0), 2);
        bench.due("and 0", full.call(1, 0), 0);
    }

    private void untelling() {
        bench.words("untell", "It is UNTOLD: true; false if it is so already, or there is none such.");
        HalfCourt court = Bench.court(CASE);
        bench.due("none such", court.untell(0), false);
        court.image(0);
        court.state(0, 0, 0, 0, 0);
        court.state(0, 0, 0, 0, 0);
        court.image(1);
        bench.due("fits", court.fits(0), 4);
        bench.due("none such", court.untell(2), false);
        bench.due("none such", court.untell(-1), false);
        bench.due("none such", court.untell(40), false);
        for (int far : FAR_OFF) {
            bench.due("none such", court.untell(far), false);
        }
        bench.due("untell", court.untell(0), true);
        bench.due("again", court.untell(0), false);
        court.later(1);
        bench.due("again, later", court.untell(0), false);
        bench.due("the other one", court.untell(1), true);
        bench.due("it counted till then", court.fits(0), 4);
        bench.due("and does no more", court.fits(1), 7);
        bench.due("the next one's number", court.state(0, 0, 0, 0, 0), 2);
        court.back(1);
        bench.due("one that is no more, behind those of an image", court.untell(2), false);
        court.back(0);
        bench.due("one that is no more, in an image of none", court.untell(0) || court.untell(1), false);
        court.state(0, 0, 0, 0, 0);
        Bench.tell(court, CASE);
        bench.due("one that is no more, of the CASE before", court.untell(0), false);
        HalfCourt forty = Bench.court(CASE);
        for (int i = 0; i < 40; i++) {
            forty.state(0, 0, 0, 0, 3);
        }
        bench.due("the 40th", forty.untell(39), true);
        bench.due("a 41st", forty.untell(40), false);
    }

    private void laterOn() {
        bench.words("later", "So much later (0 .. 1000): the TIME; NONE, doing nothing, for another number, "
                + "or if it would be above 100,000.");
        HalfCourt court = new HalfCourt();
        bench.due("later(0)", court.later(0), 0);
        bench.due("later(1000)", court.later(1000), 1000);
        bench.dueAll("another number", -1, court.later(1001), court.later(-1), court.later(-1000), court.later(Integer.MIN_VALUE),
                court.later(Integer.MAX_VALUE));
        bench.due("the TIME", court.about(8), 1000);
        for (int i = 2; i < 100; i++) {
            court.later(1000);
        }
        bench.due("later(1)", court.later(1), 99001);
        bench.due("later(1000)", court.later(1000), -1);
        bench.due("later(999)", court.later(999), 100000);
        bench.dueAll("above 100,000", -1, court.later(1), court.later(1000));
        bench.due("later(0)", court.later(0), 100000);
        bench.due("the TIME", court.about(8), 100000);
        bench.due("it stays in trial()", court.trial() + court.about(8), 100000);
    }

    private void fitting() {
        terms("FIT at k: DEEDS by which all STATEMENTS are so.");
        bench.words("fits", "FIT, as bits.");
        HalfCourt court = Bench.court(CASE);
        bench.due("all FIT at first", court.fits(0), 7);
        court.state(0, 0, 0, 0, 1);
        bench.due("b", court.fits(0), 2);
        court.state(0, 1, 0, 0, 2);
        bench.due("b still", court.fits(0), 2);
        court.state(0, 1, 0, 0, 0);
        bench.due("none", court.fits(0), 0);
        bench.due("without DEEDS", Bench.court("scene 1 by 1;minutes 1;").fits(0), 0);
        bench.due("eight", Bench.court("scene 1 by 1;minutes 1;deed a;deed b;deed c;deed d;deed e;deed f;deed g;deed h;").fits(0), 255);
    }

    private void lying() {
        terms("LIARS by a DEED: WITNESSES of whom some STATEMENT that counts is not so.");
        bench.words("liars", "LIARS by a DEED, as bits;");
        HalfCourt court = Bench.court(CASE);
        bench.due("nobody", court.liars(0, 0), 0);
        court.state(0, 0, 0, 0, 3);
        court.state(0, 1, 0, 0, 0);
        court.state(2, 0, 0, 0, 1);
        court.state(1, 3, 0, 0, 2);
        bench.due("liars by a", court.liars(0, 0), 6);
        bench.due("liars by b", court.liars(1, 0), 3);
        bench.due("liars by c", court.liars(2, 0), 5);
        court.untell(0);
        court.untell(3);
        bench.due("liars by a", court.liars(0, 0), 4);
        bench.due("liars by b: one of two STATEMENTS is left", court.liars(1, 0), 1);
        bench.words("liars", "NONE if there is none such.");
        bench.dueAll("none such", -1, court.liars(-1, 0), court.liars(3, 0), court.liars(8, 0), court.liars(Integer.MAX_VALUE, 0),
                court.liars(Integer.MIN_VALUE, 0));
    }

    private void fewestLiars() {
        terms("FEWEST liars: by the DEED with the fewest; of like ones the first.");
        bench.words("fewest", "FEWEST liars what 0: how many, 1: the DEED;");
        HalfCourt court = Bench.court(CASE);
        bench.due("none lies", court.fewest(0, 0), 0);
        bench.due("by the first", court.fewest(1, 0), 0);
        court.state(0, 0, 0, 0, 3);
        court.state(2, 0, 0, 0, 1);
        court.state(1, 3, 0, 0, 2);
        bench.due("fewest of 2, 2, 2", court.fewest(0, 0), 2);
        bench.due("the first", court.fewest(1, 0), 0);
        court.state(2, 1, 0, 0, 0);
        court.state(0, 1, 1, 0, 0);
        bench.due("liars by a", court.liars(0, 0), 7);
        bench.due("liars by b", court.liars(1, 0), 7);
        bench.due("fewest of 3, 3, 2", court.fewest(0, 0), 2);
        bench.due("is by c", court.fewest(1, 0), 2);
        HalfCourt late = Bench.court(CASE);
        late.state(0, 0, 0, 0, 0);
        late.state(1, 3, 0, 0, 0);
        bench.due("fewest of 1, 1, 1", late.fewest(1, 0), 0);
        late.state(2, 0, 0, 0, 1);
        bench.due("fewest of 2, 1, 2", late.fewest(1, 0), 1);
        bench.words("fewest", "NONE without DEEDS, or for another what.");
        bench.dueAll("another what", -1, court.fewest(2, 0), court.fewest(-1, 0), court.fewest(Integer.MAX_VALUE, 0),
                court.fewest(Integer.MIN_VALUE, 0));
        HalfCourt none = Bench.court("scene 1 by 1;minutes 1;");
        bench.dueAll("without DEEDS", -1, none.fewest(0, 0), none.fewest(1, 0), none.fewest(2, 0));
    }

    private void beingSure() {
        terms("SURE of a CELL in a MINUTE: which THINGS are there by all DEEDS that FIT.");
        bench.words("sure", "SURE: THINGS that are there by all that FIT (most false), or by some (true), as bits;");
        HalfCourt court = Bench.court(CASE + "deed d k at 0 0 in 0 h at 0 0 in 0 m at 0 0 in 0;");
        bench.due("by all", court.sure(0, 0, 0, false, 0), 0);
        bench.due("by some", court.sure(0, 0, 0, true, 0), 7);
        court.state(1, 3, 0, 0, 0);
        bench.due("fits", court.fits(0), 11);
        bench.due("by a, b and d", court.sure(0, 0, 0, false, 0), 1);
        bench.due("by a, b or d", court.sure(0, 0, 0, true, 0), 7);
        court.state(0, 1, 0, 0, 0);
        bench.due("by a and d", court.sure(0, 0, 0, false, 0), 3);
        bench.due("a CELL that nobody told of", court.sure(1, 0, 1, true, 0), 1);
        bench.due("nothing there", court.sure(2, 1, 1, true, 0), 0);
        court.state(0, 0, 0, 0, 7);
        bench.due("by d alone", court.sure(0, 0, 0, false, 0), 7);
        bench.words("sure", "NONE if none FITS, or one can't be.");
        int[][] wrong = {{-1, 0, 0}, {4, 0, 0}, {0, -1, 0}, {0, 2, 0}, {0, 0, -1}, {0, 0, 2}, {6, 0, 0}, {0, 6, 0}, {0, 0, 5}};
        for (int[] w : wrong) {
            bench.due("sure can't be", court.sure(w[0], w[1], w[2], false, 0), -1);
            bench.due("sure can't be", court.sure(w[0], w[1], w[2], true, 0), -1);
        }
        for (int far : FAR_OFF) {
            bench.dueAll("sure can't be", -1, court.sure(far, 0, 0, true, 0), court.sure(0, far, 0, true, 0), court.sure(0, 0, far, true, 0));
        }
        court.state(1, 3, 0, 0, 1);
        bench.due("none FITS", court.sure(0, 0, 0, false, 0), -1);
        bench.due("none FITS", court.sure(0, 0, 0, true, 0), -1);
        HalfCourt none = Bench.court("scene 1 by 1;minutes 1;thing k;");
        bench.dueAll("without DEEDS", -1, none.sure(0, 0, 0, false, 0), none.sure(0, 0, 0, true, 0));
    }

    private void sayingTwice() {
        terms("TWICE: WITNESSES with two STATEMENTS that count of one CELL in one MINUTE that tell unlike THINGS.");
        bench.words("twice", "TWICE, as bits.");
        HalfCourt court = Bench.court(CASE);
        court.state(0, 0, 0, 0, 1);
        court.state(0, 0, 0, 0, 1);
        court.state(0, 0, 0, 1, 2);
        court.state(0, 0, 1, 0, 2);
        court.state(0, 1, 0, 0, 2);
        court.state(2, 0, 0, 0, 2);
        bench.due("nobody", court.twice(0), 0);
        court.state(2, 0, 0, 0, 0);
        bench.due("w", court.twice(0), 4);
        court.state(0, 1, 0, 0, 0);
        bench.due("u and w", court.twice(0), 5);
        court.untell(6);
        bench.due("u", court.twice(0), 1);
        court.later(1);
        court.untell(4);
        bench.due("known later, nobody", court.twice(1), 0);
        bench.due("known then, u", court.twice(0), 1);
        HalfCourt first = Bench.court(CASE);
        first.state(1, 3, 0, 0, 1);
        bench.due("one alone", first.twice(0), 0);
        first.state(1, 3, 0, 0, 2);
        bench.due("the first two", first.twice(0), 2);
    }

    private void striking() {
        terms("STRUCK: the fewest STATEMENTS that count, without which some DEED FITS; the first such DEED.");
        bench.words("struck", "STRUCK what 0: how many, 1: the DEED;");
        HalfCourt court = Bench.court(CASE);
        bench.due("none", court.struck(0, 0), 0);
        bench.due("the first", court.struck(1, 0), 0);
        court.state(0, 0, 0, 0, 1);
        court.state(0, 0, 0, 0, 1);
        court.state(0, 0, 0, 0, 1);
        court.state(2, 1, 0, 0, 0);
        court.state(1, 3, 0, 0, 2);
        bench.due("fewest is by one liar", court.fewest(0, 0), 1);
        bench.due("namely by c", court.fewest(1, 0), 2);
        bench.due("struck by 4, 2, 3", court.struck(0, 0), 2);
        bench.due("b", court.struck(1, 0), 1);
        court.untell(0);
        bench.due("struck by 3, 2, 2", court.struck(0, 0), 2);
        bench.due("b is the first", court.struck(1, 0), 1);
        court.untell(1);
        bench.due("struck by 2, 2, 1", court.struck(0, 0), 1);
        bench.due("c", court.struck(1, 0), 2);
        bench.words("struck", "NONE without DEEDS, or for another what.");
        bench.dueAll("another what", -1, court.struck(2, 0), court.struck(-1, 0), court.struck(Integer.MAX_VALUE, 0),
                court.struck(Integer.MIN_VALUE, 0));
        HalfCourt none = Bench.court("scene 1 by 1;minutes 1;");
        bench.dueAll("without DEEDS", -1, none.struck(0, 0), none.struck(1, 0), none.struck(2, 0));
    }

    private void judgingForty() {
        terms("STATEMENTS, 40 at most,");
        HalfCourt court = Bench.court(CASE);
        for (int i = 0; i < 39; i++) {
            court.state(0, 0, 0, 0, 3);
        }
        court.state(0, 0, 0, 0, 1);
        bench.due("fits", court.fits(0), 0);
        bench.due("liars by a", court.liars(0, 0), 1);
        bench.due("fewest", court.fewest(0, 0), 1);
        bench.due("sure", court.sure(0, 0, 0, true, 0), -1);
        bench.due("the 40th is unlike the others", court.twice(0), 1);
        bench.due("struck", court.struck(0, 0), 1);
        bench.due("by a", court.struck(1, 0), 0);
        bench.due("image", court.image(0), 40);
        court.untell(39);
        bench.due("fits", court.fits(0), 1);
        bench.due("back", court.back(0), 40);
        bench.due("fits", court.fits(0), 0);
        bench.due("the 40th is there again", court.untell(39), true);
    }

    private void images() {
        bench.words("image", "STATEMENTS (those that are UNTOLD, too), the TIME are kept in a BOX 0 .. 2: how many;");
        HalfCourt court = Bench.court(CASE);
        bench.due("image of nothing", court.image(0), 0);
        court.later(3);
        court.state(0, 0, 0, 0, 3);
        court.state(1, 3, 0, 0, 2);
        court.untell(0);
        bench.due("image(1): the UNTOLD too", court.image(1), 2);
        bench.due("image(2)", court.image(2), 2);
        bench.due("it does nothing else", court.about(7), 2);
        court.state(0, 0, 0, 0, 3);
        bench.due("image(1) again", court.image(1), 3);
        bench.due("image(2) is as it was", court.back(2), 2);
        bench.due("image(1) is the later one", court.back(1), 3);
        bench.due("image(0), too", court.back(0), 0);
        bench.words("image", "NONE if there is none such.");
        bench.dueAll("none such", -1, court.image(-1), court.image(3), court.image(Integer.MAX_VALUE), court.image(Integer.MIN_VALUE));
    }

    private void backToImages() {
        bench.words("back", "STATEMENTS and the TIME are as they were kept: how many; NONE, doing nothing, if nothing was.");
        HalfCourt court = Bench.court(CASE);
        bench.dueAll("nothing was", -1, court.back(0), court.back(1), court.back(2), court.back(-1), court.back(3),
                court.back(Integer.MAX_VALUE), court.back(Integer.MIN_VALUE));
        court.image(0);
        court.later(3);
        court.state(0, 0, 0, 0, 3);
        court.state(1, 3, 0, 0, 2);
        court.untell(0);
        court.image(1);
        court.later(4);
        court.untell(1);
        court.state(0, 0, 0, 0, 0);
        bench.dueAll("nothing was", -1, court.back(2), court.back(-1), court.back(3));
        bench.due("it did nothing", court.about(7), 3);
        bench.due("nor to the TIME", court.about(8), 7);
        bench.due("back(1)", court.back(1), 2);
        bench.due("the TIME", court.about(8), 3);
        bench.due("1 counts again", court.fits(3), 4);
        bench.due("0 is UNTOLD", court.untell(0), false);
        bench.due("1 is not", court.untell(1), true);
        bench.due("back(1): the BOX is as it was", court.back(1), 2);
        bench.due("1 is not", court.untell(1), true);
        bench.due("gone on from", court.state(0, 0, 0, 0, 0), 2);
        bench.due("back(0)", court.back(0), 0);
        bench.due("the TIME", court.about(8), 0);
        bench.due("STATEMENTS", court.about(7), 0);
        bench.due("image(1) over it", court.image(1), 0);
        bench.due("back(1)", court.back(1), 0);
        bench.due("an image of nothing is an image", court.back(0), 0);
    }

    private void wholeImages() {
        HalfCourt court = Bench.court(CASE);
        court.later(2);
        court.image(0);
        court.later(3);
        court.state(0, 0, 0, 0, 3);
        court.state(0, 0, 0, 0, 1);
        court.state(2, 1, 1, 0, 0);
        court.state(0, 1, 0, 1, 0);
        court.image(1);
        court.back(0);
        for (int i = 0; i < 4; i++) {
            court.state(1, 3, i % 2, 0, i);
        }
        court.image(2);
        bench.due("back(1)", court.back(1), 4);
        bench.due("TWICE, as it was", court.twice(5), 1);
        bench.due("TOLD at 5", court.twice(4), 0);
        bench.due("liars by a", court.liars(0, 5), 5);
        bench.due("liars by b", court.liars(1, 5), 1);
        bench.due("struck by 3, 1, 2", court.struck(0, 5), 1);
        bench.due("b", court.struck(1, 5), 1);
        bench.due("without 0 and 3", court.untell(0) && court.untell(3), true);
        bench.due("b FITS", court.fits(5), 2);
        bench.due("back(2)", court.back(2), 4);
        bench.due("TOLD at 2", court.liars(0, 2), 2);
        bench.due("TWICE of v", court.twice(2), 2);
        bench.due("struck by 3, 3, 3", court.struck(0, 2), 3);
    }
}
