/** Promises 9 to 18, 28 and 29: what was said, undone, known in two times, and images of it. */
public final class StatementsTest {
    private static final String CASE = "scene 4 by 2;minutes 2;thing k;thing h;thing m;law sees<13;"
            + "deed a k at 0 0 in 0 h at 0 0 in 0 k at 1 0 in 1 m at 1 1 in 0;"
            + "deed b k at 0 0 in 0 h at 1 0 in 0;"
            + "deed c h at 3 0 in 0;"
            + "witness u at 2 0 looks left from 0 to 1 fee 3;"
            + "witness v at 2 0 looks right from 0 to 0 fee 2;"
            + "witness w at 3 0 looks left from 0 to 0 fee 5;";
    private static final String SENT_OUT = CASE + "witness x at 3 0 looks left from 0 to 1 fee 1;";

    private final Bench bench = new Bench("StatementsTest");

    public static void main(String[] args) {
        StatementsTest test = new StatementsTest();
        test.stating();
        test.sentOut();
        test.calling();
        test.fortyStatements();
        test.untelling();
        test.laterOn();
        test.twoTimes();
        test.fittingAndLying();
        test.fewestAndFirst();
        test.beingSure();
        test.sayingTwice();
        test.striking();
        test.images();
        test.wholeImages();
        test.bench.close();
    }

    private void stating() {
        HalfCourt court = Bench.court(CASE);
        bench.due("state", court.state(0, 0, 0, 0, 3), 0);
        bench.due("the same again", court.state(0, 0, 0, 0, 3), 1);
        bench.due("nothing there", court.state(1, 3, 1, 0, 0), 2);
        int[][] wrong = {{-1, 0, 0, 0, 0}, {3, 0, 0, 0, 0}, {0, -1, 0, 0, 0}, {0, 4, 0, 0, 0}, {0, 0, -1, 0, 0},
            {0, 0, 2, 0, 0}, {0, 0, 0, -1, 0}, {0, 0, 0, 2, 0}, {0, 0, 0, 0, -1}, {0, 0, 0, 0, 8},
            {0, 2, 0, 0, 0}, {0, 3, 0, 0, 0}, {1, 3, 0, 1, 0}, {0, 0, 0, 0, Integer.MIN_VALUE}};
        for (int[] w : wrong) {
            bench.due("state can't be", court.state(w[0], w[1], w[2], w[3], w[4]), -1);
        }
        bench.due("they did nothing", court.about(7), 3);
        HalfCourt bare = Bench.court("scene 2 by 1;minutes 1;witness u at 1 0 looks left from 0 to 0 fee 3;");
        bench.due("no THINGS at all", bare.state(0, 0, 0, 0, 0), 0);
        bench.due("none to be told", bare.state(0, 0, 0, 0, 1), -1);
    }

    private void sentOut() {
        HalfCourt court = Bench.court(SENT_OUT.replace("sees<13", "sees<12"));
        bench.due("SEES", court.witness(3, 0), 12);
        bench.due("SENT OUT", court.witness(3, 2), 0);
        bench.due("edge", court.edge(3, 0, 0, 0), 0);
        bench.due("state", court.state(3, 0, 0, 0, 3), -1);
        bench.due("call", court.call(3, 0), -1);
        bench.due("nothing was said", court.about(7), 0);
        HalfCourt heard = Bench.court(SENT_OUT);
        bench.due("HEARD", heard.state(3, 0, 0, 0, 3), 0);
    }

    private void calling() {
        HalfCourt court = Bench.court(CASE);
        bench.due("call(0, 0)", court.call(0, 0), 3);
        bench.due("STATEMENTS", court.about(7), 3);
        bench.due("call(1, 0)", court.call(1, 0), 0);
        bench.due("call(1, 2)", court.call(1, 2), 1);
        bench.due("call(2, 1)", court.call(2, 1), 2);
        bench.due("STATEMENTS", court.about(7), 6);
        int[][] wrong = {{-1, 0}, {3, 0}, {0, -1}, {0, 3}};
        for (int[] w : wrong) {
            bench.due("call can't be", court.call(w[0], w[1]), -1);
        }
        bench.due("it did nothing", court.about(7), 6);
        // By MINUTE, then y, then x: 0 0 in 0, 1 1 in 0, 1 0 in 1 of a; each by itself leaves out what it contradicts.
        int[] dueFits = {1, 1, 1};
        for (int i = 0; i < 3; i++) {
            HalfCourt one = Bench.court(CASE);
            one.call(0, 0);
            for (int j = 0; j < 3; j++) {
                if (j != i) {
                    one.untell(j);
                }
            }
            bench.due("fits by STATEMENT " + i, one.fits(0), dueFits[i]);
        }
    }

    /** Which STATEMENT of a call is which is told by a DEED that differs from the CALLED one in one place alone. */
    private void fortyStatements() {
        HalfCourt court = Bench.court("scene 3 by 3;minutes 2;thing k;thing h;law 1;"
                + "deed a k at 0 2 in 0 h at 1 0 in 0 k at 0 0 in 1 h at 0 1 in 1;"
                + "deed b h at 1 0 in 0 k at 0 0 in 1 h at 0 1 in 1;"
                + "deed c k at 0 2 in 0 k at 0 0 in 1 h at 0 1 in 1;"
                + "deed d k at 0 2 in 0 h at 1 0 in 0 h at 0 1 in 1;"
                + "deed e k at 0 2 in 0 h at 1 0 in 0 k at 0 0 in 1;"
                + "witness u at 2 0 looks left from 0 to 1 fee 3;");
        bench.due("call", court.call(0, 0), 4);
        int[] due = {1, 4, 2, 8, 16};
        bench.due("fits", court.fits(0), 1);
        for (int i = 0; i < 4; i++) {
            bench.due("untell", court.untell(i), true);
            bench.due("fits without STATEMENT " + i, court.fits(0) & due[i + 1], due[i + 1]);
        }
        for (int i = 2; i <= 10; i++) {
            bench.due("call", court.call(0, 0), 4);
        }
        bench.due("40, those UNTOLD too", court.about(7), 40);
        bench.due("call", court.call(0, 0), -1);
        bench.due("state", court.state(0, 0, 0, 0, 0), -1);
        bench.due("40", court.about(7), 40);
        HalfCourt near = Bench.court(CASE);
        for (int i = 0; i < 38; i++) {
            bench.due("state", near.state(0, 0, 0, 0, 0), i);
        }
        bench.due("a call of 3 on 38", near.call(0, 0), -1);
        bench.due("38", near.about(7), 38);
        bench.due("a call of 2 on 38", near.call(2, 0), 2);
        bench.due("a call of 0 on 40", near.call(1, 0), 0);
        bench.due("40", near.about(7), 40);
    }

    private void untelling() {
        HalfCourt court = Bench.court(CASE);
        bench.due("none such", court.untell(0), false);
        court.state(0, 0, 0, 0, 0);
        bench.due("fits", court.fits(0), 4);
        bench.due("none such", court.untell(1), false);
        bench.due("none such", court.untell(-1), false);
        bench.due("none such", court.untell(Integer.MAX_VALUE), false);
        bench.due("untell", court.untell(0), true);
        bench.due("again", court.untell(0), false);
        bench.due("TOLD and UNTOLD at one TIME", court.fits(0), 7);
        bench.due("the next one's number", court.state(0, 0, 0, 0, 0), 1);
    }

    private void laterOn() {
        HalfCourt court = new HalfCourt();
        bench.due("later(0)", court.later(0), 0);
        bench.due("later(1000)", court.later(1000), 1000);
        bench.due("later(1001)", court.later(1001), -1);
        bench.due("later(-1)", court.later(-1), -1);
        bench.due("later(MIN)", court.later(Integer.MIN_VALUE), -1);
        bench.due("later(MAX)", court.later(Integer.MAX_VALUE), -1);
        bench.due("the TIME", court.about(8), 1000);
        for (int i = 2; i < 100; i++) {
            court.later(1000);
        }
        bench.due("later(999)", court.later(999), 99999);
        bench.due("later(2)", court.later(2), -1);
        bench.due("the TIME", court.about(8), 99999);
        bench.due("later(1)", court.later(1), 100000);
        bench.due("later(1)", court.later(1), -1);
        bench.due("later(0)", court.later(0), 100000);
    }

    private void twoTimes() {
        HalfCourt court = Bench.court(CASE);
        court.later(5);
        court.state(0, 0, 0, 0, 3);
        court.later(5);
        court.state(0, 0, 0, 0, 1);
        court.later(5);
        court.untell(0);
        court.later(5);
        int[][] due = {{Integer.MIN_VALUE, 7}, {-1, 7}, {4, 7}, {5, 1}, {9, 1}, {10, 0}, {14, 0}, {15, 2}, {20, 2}, {99, 2},
            {Integer.MAX_VALUE, 2}};
        for (int[] d : due) {
            bench.due("fits(" + d[0] + ")", court.fits(d[0]), d[1]);
        }
        bench.due("twice(9)", court.twice(9), 0);
        bench.due("twice(10)", court.twice(10), 1);
        bench.due("twice(15)", court.twice(15), 0);
        bench.due("liars(0, 9)", court.liars(0, 9), 0);
        bench.due("liars(0, 15)", court.liars(0, 15), 1);
        bench.due("fewest(1, 5)", court.fewest(1, 5), 0);
        bench.due("fewest(1, 15)", court.fewest(1, 15), 1);
        bench.due("struck(0, 10)", court.struck(0, 10), 1);
        bench.due("struck(1, 10)", court.struck(1, 10), 0);
        bench.due("struck(1, MAX)", court.struck(1, Integer.MAX_VALUE), 1);
        bench.due("sure at 5", court.sure(1, 1, 0, false, 5), 4);
        bench.due("sure at 10", court.sure(1, 1, 0, false, 10), -1);
        bench.due("sure at 15", court.sure(1, 0, 0, true, 15), 2);
    }

    private void fittingAndLying() {
        HalfCourt court = Bench.court(CASE);
        bench.due("all FIT at first", court.fits(0), 7);
        court.state(0, 0, 0, 0, 3);
        court.state(2, 0, 0, 0, 1);
        court.state(1, 3, 0, 0, 2);
        bench.due("none FITS", court.fits(0), 0);
        bench.due("liars by a", court.liars(0, 0), 6);
        bench.due("liars by b", court.liars(1, 0), 3);
        bench.due("liars by c", court.liars(2, 0), 5);
        bench.due("liars(-1)", court.liars(-1, 0), -1);
        bench.due("liars(3)", court.liars(3, 0), -1);
        bench.due("some of the THINGS are not all", Bench.court(CASE).state(0, 0, 0, 0, 1), 0);
    }

    private void fewestAndFirst() {
        HalfCourt court = Bench.court(CASE);
        court.state(0, 0, 0, 0, 3);
        court.state(2, 0, 0, 0, 1);
        court.state(1, 3, 0, 0, 2);
        bench.due("fewest of 2, 2, 2", court.fewest(0, 0), 2);
        bench.due("the first", court.fewest(1, 0), 0);
        court.state(2, 1, 0, 0, 0);
        court.state(0, 1, 1, 0, 0);
        bench.due("liars by a", court.liars(0, 0), 7);
        bench.due("liars by b", court.liars(1, 0), 7);
        bench.due("fewest of 3, 3, 2", court.fewest(0, 0), 2);
        bench.due("is by c", court.fewest(1, 0), 2);
        bench.due("fewest(2)", court.fewest(2, 0), -1);
        bench.due("fewest(-1)", court.fewest(-1, 0), -1);
        HalfCourt none = Bench.court("scene 1 by 1;minutes 1;");
        bench.due("without DEEDS", none.fewest(0, 0), -1);
        bench.due("without DEEDS", none.fewest(1, 0), -1);
        bench.due("without DEEDS", none.struck(0, 0), -1);
        bench.due("without DEEDS", none.struck(1, 0), -1);
        bench.due("without DEEDS", none.sure(0, 0, 0, false, 0), -1);
        bench.due("without DEEDS", none.fits(0), 0);
    }

    private void beingSure() {
        HalfCourt court = Bench.court(CASE);
        bench.due("by all", court.sure(0, 0, 0, false, 0), 0);
        bench.due("by some", court.sure(0, 0, 0, true, 0), 3);
        court.state(1, 3, 0, 0, 0);
        bench.due("fits", court.fits(0), 3);
        bench.due("by a and b", court.sure(0, 0, 0, false, 0), 1);
        bench.due("by a or b", court.sure(0, 0, 0, true, 0), 3);
        bench.due("a CELL that nobody told of", court.sure(1, 0, 1, true, 0), 1);
        bench.due("nothing there", court.sure(2, 1, 1, true, 0), 0);
        int[][] wrong = {{-1, 0, 0}, {4, 0, 0}, {0, -1, 0}, {0, 2, 0}, {0, 0, -1}, {0, 0, 2}};
        for (int[] w : wrong) {
            bench.due("sure can't be", court.sure(w[0], w[1], w[2], false, 0), -1);
            bench.due("sure can't be", court.sure(w[0], w[1], w[2], true, 0), -1);
        }
        court.state(1, 3, 0, 0, 1);
        bench.due("none FITS", court.sure(0, 0, 0, false, 0), -1);
        bench.due("none FITS", court.sure(0, 0, 0, true, 0), -1);
    }

    private void sayingTwice() {
        HalfCourt court = Bench.court(CASE);
        court.state(0, 0, 0, 0, 1);
        court.state(0, 0, 0, 0, 1);
        court.state(0, 0, 0, 1, 2);
        court.state(0, 0, 1, 0, 2);
        court.state(0, 1, 0, 0, 2);
        court.state(2, 0, 0, 0, 2);
        bench.due("nobody", court.twice(0), 0);
        court.state(2, 0, 0, 0, 0);
        bench.due("w", court.twice(0), 4);
        court.state(0, 1, 0, 0, 0);
        bench.due("u and w", court.twice(0), 5);
        court.untell(6);
        bench.due("u", court.twice(0), 1);
    }

    private void striking() {
        HalfCourt court = Bench.court(CASE);
        bench.due("none", court.struck(0, 0), 0);
        bench.due("the first", court.struck(1, 0), 0);
        court.state(0, 0, 0, 0, 1);
        court.state(0, 0, 0, 0, 1);
        court.state(0, 0, 0, 0, 1);
        court.state(2, 1, 0, 0, 0);
        court.state(1, 3, 0, 0, 2);
        bench.due("fewest is by one liar", court.fewest(0, 0), 1);
        bench.due("namely by c", court.fewest(1, 0), 2);
        bench.due("struck by 4, 2, 3", court.struck(0, 0), 2);
        bench.due("b", court.struck(1, 0), 1);
        bench.due("struck(2)", court.struck(2, 0), -1);
        bench.due("struck(-1)", court.struck(-1, 0), -1);
    }

    private void images() {
        HalfCourt court = Bench.court(CASE);
        bench.due("image(-1)", court.image(-1), -1);
        bench.due("image(3)", court.image(3), -1);
        bench.due("back(-1)", court.back(-1), -1);
        bench.due("back(3)", court.back(3), -1);
        bench.due("back(0)", court.back(0), -1);
        bench.due("image of nothing", court.image(0), 0);
        court.later(3);
        court.state(0, 0, 0, 0, 3);
        court.state(1, 3, 0, 0, 2);
        court.untell(0);
        bench.due("image(1): the UNTOLD too", court.image(1), 2);
        court.later(4);
        court.untell(1);
        court.state(0, 0, 0, 0, 0);
        bench.due("back(2)", court.back(2), -1);
        bench.due("it did nothing", court.about(7), 3);
        bench.due("back(1)", court.back(1), 2);
        bench.due("the TIME", court.about(8), 3);
        bench.due("1 counts again", court.fits(3), 4);
        bench.due("0 is UNTOLD", court.untell(0), false);
        bench.due("1 is not", court.untell(1), true);
        bench.due("back(1): the BOX is as it was", court.back(1), 2);
        bench.due("1 is not", court.untell(1), true);
        bench.due("gone on from", court.state(0, 0, 0, 0, 0), 2);
        bench.due("back(0)", court.back(0), 0);
        bench.due("the TIME", court.about(8), 0);
        bench.due("STATEMENTS", court.about(7), 0);
        bench.due("image(1) over it", court.image(1), 0);
        bench.due("back(1)", court.back(1), 0);
    }

    private void wholeImages() {
        HalfCourt court = Bench.court(CASE);
        court.later(2);
        court.image(0);
        court.later(3);
        court.state(0, 0, 0, 0, 3);
        court.state(0, 0, 0, 0, 1);
        court.state(2, 1, 1, 0, 0);
        court.state(0, 1, 0, 1, 0);
        court.image(1);
        court.back(0);
        for (int i = 0; i < 4; i++) {
            court.state(1, 3, i % 2, 0, i);
        }
        court.image(2);
        bench.due("back(1)", court.back(1), 4);
        bench.due("TWICE, as it was", court.twice(5), 1);
        bench.due("TOLD at 5", court.twice(4), 0);
        bench.due("liars by a", court.liars(0, 5), 5);
        bench.due("liars by b", court.liars(1, 5), 1);
        bench.due("struck by 3, 1, 2", court.struck(0, 5), 1);
        bench.due("b", court.struck(1, 5), 1);
        bench.due("without 0 and 3", court.untell(0) && court.untell(3), true);
        bench.due("b FITS", court.fits(5), 2);
        bench.due("back(2)", court.back(2), 4);
        bench.due("TOLD at 2", court.liars(0, 2), 2);
        bench.due("TWICE of v", court.twice(2), 2);
        bench.due("struck by 3, 3, 3", court.struck(0, 2), 3);
    }
}
