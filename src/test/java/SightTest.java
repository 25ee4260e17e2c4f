/** Promises 6 to 8 and the law: who SEES what, by which EDGE he does not, who may be HEARD, what is where. */
public final class SightTest {
    private final Bench bench = new Bench("SightTest");

    public static void main(String[] args) {
        SightTest test = new SightTest();
        test.sides();
        test.edgesInOrder();
        test.halvesUp();
        test.wallsBetween();
        test.whatCannotBe();
        test.halfOfAll();
        test.formulas();
        test.scenes();
        test.bench.close();
    }

    private static String seer(String side) {
        return "witness " + side.charAt(0) + " at 1 1 looks " + side + " from 0 to 0 fee 1;";
    }

    private void sides() {
        HalfCourt court = Bench.court("scene 3 by 3;minutes 1;" + seer("left") + seer("right") + seer("up") + seer("down"));
        for (int y = 0; y < 3; y++) {
            for (int x = 0; x < 3; x++) {
                bench.due("left " + x + y, court.edge(0, x, y, 0), x < 1 ? 0 : 2);
                bench.due("right " + x + y, court.edge(1, x, y, 0), x > 1 ? 0 : 2);
                bench.due("up " + x + y, court.edge(2, x, y, 0), y > 1 ? 0 : 2);
                bench.due("down " + x + y, court.edge(3, x, y, 0), y < 1 ? 0 : 2);
            }
        }
        for (int w = 0; w < 4; w++) {
            bench.due("SEES", court.witness(w, 0), 3);
        }
    }

    private void edgesInOrder() {
        HalfCourt court = Bench.court("scene 6 by 1;minutes 3;wall at 3 0;wall at 5 0;fog 1 far 2;fog 2 far 0;"
                + "witness w at 1 0 looks right from 1 to 2 fee 7;witness v at 1 0 looks right from 0 to 1 fee 8;");
        int[] early = {1, 1, 1, 1, 1, 1};
        int[] middle = {2, 2, 0, 5, 3, 3};
        int[] late = {2, 2, 3, 3, 3, 3};
        int[] clear = {2, 2, 0, 5, 4, 4};
        for (int x = 0; x < 6; x++) {
            bench.due("w early " + x, court.edge(0, x, 0, 0), early[x]);
            bench.due("w middle " + x, court.edge(0, x, 0, 1), middle[x]);
            bench.due("w late " + x, court.edge(0, x, 0, 2), late[x]);
            bench.due("v clear " + x, court.edge(1, x, 0, 0), clear[x]);
            bench.due("v late " + x, court.edge(1, x, 0, 2), 1);
        }
        bench.due("SEES of w", court.witness(0, 0), 1);
        bench.due("SEES of v", court.witness(1, 0), 2);
        bench.due("fee of w", court.witness(0, 1), 7);
        bench.due("fee of v", court.witness(1, 1), 8);
    }

    private void halvesUp() {
        String head = "scene 3 by 2;minutes 1;";
        String low = "witness w at 0 0 looks right from 0 to 0 fee 1;";
        String high = "witness w at 0 1 looks right from 0 to 0 fee 1;";
        bench.due("half of 0 and 1 is 1", Bench.court(head + "wall at 1 1;" + low).edge(0, 2, 1, 0), 4);
        bench.due("and not 0", Bench.court(head + "wall at 1 0;" + low).edge(0, 2, 1, 0), 0);
        bench.due("half of 1 and 0 is 1", Bench.court(head + "wall at 1 1;" + high).edge(0, 2, 0, 0), 4);
        bench.due("and not 0", Bench.court(head + "wall at 1 0;" + high).edge(0, 2, 0, 0), 0);
        String tall = "scene 2 by 3;minutes 1;";
        String right = "witness w at 1 2 looks down from 0 to 0 fee 1;";
        bench.due("across, too", Bench.court(tall + "wall at 1 1;" + right).edge(0, 0, 0, 0), 4);
        bench.due("and not 0", Bench.court(tall + "wall at 0 1;" + right).edge(0, 0, 0, 0), 0);
    }

    private void wallsBetween() {
        String head = "scene 6 by 3;minutes 1;";
        String seer = "witness w at 0 0 looks right from 0 to 0 fee 1;";
        // On the way to 5 2 stand 1 0 (0.4), 2 1 (0.8), 3 1 (1.2), 4 2 (1.6).
        String[] on = {"1 0", "2 1", "3 1", "4 2"};
        for (String wall : on) {
            bench.due("wall at " + wall, Bench.court(head + "wall at " + wall + ";" + seer).edge(0, 5, 2, 0), 4);
        }
        String[] off = {"0 0", "1 1", "2 0", "2 2", "3 0", "3 2", "4 1", "5 1", "0 1"};
        for (String wall : off) {
            bench.due("wall at " + wall, Bench.court(head + "wall at " + wall + ";" + seer).edge(0, 5, 2, 0), 0);
        }
        bench.due("wall there", Bench.court(head + "wall at 5 2;" + seer).edge(0, 5, 2, 0), 5);
        bench.due("behind and there", Bench.court(head + "wall at 5 2;wall at 3 1;" + seer).edge(0, 5, 2, 0), 4);
        String up = "witness w at 3 0 looks up from 0 to 0 fee 1;";
        bench.due("next to him", Bench.court(head + "wall at 3 1;" + up).edge(0, 3, 1, 0), 5);
        bench.due("behind that", Bench.court(head + "wall at 3 1;" + up).edge(0, 3, 2, 0), 4);
    }

    private void whatCannotBe() {
        HalfCourt court = Bench.court("scene 3 by 2;minutes 2;thing k;deed a;" + seer("left"));
        int[][] wrong = {{-1, 0, 0, 0}, {1, 0, 0, 0}, {0, -1, 0, 0}, {0, 3, 0, 0}, {0, 0, -1, 0}, {0, 0, 2, 0},
            {0, 0, 0, -1}, {0, 0, 0, 2}, {Integer.MAX_VALUE, 0, 0, 0}, {0, Integer.MIN_VALUE, 0, 0}};
        for (int[] w : wrong) {
            bench.due("edge", court.edge(w[0], w[1], w[2], w[3]), -1);
            bench.due("scene", court.scene(w[0], w[1], w[2], w[3]), -1);
        }
        bench.due("witness(-1, 0)", court.witness(-1, 0), -1);
        bench.due("witness(1, 0)", court.witness(1, 0), -1);
        bench.due("witness(0, -1)", court.witness(0, -1), -1);
        bench.due("witness(0, 3)", court.witness(0, 3), -1);
        bench.due("no MINUTES", Bench.court("scene 3 by 2;").edge(0, 0, 0, 0), -1);
    }

    private void halfOfAll() {
        String head = "scene 3 by 2;minutes 1;";
        String two = "witness w at 2 0 looks left from 0 to 0 fee 1;";
        HalfCourt more = Bench.court(head + two);
        bench.due("4 of 6", more.witness(0, 0), 4);
        bench.due("is more than half", more.witness(0, 2), 0);
        HalfCourt half = Bench.court(head + "wall at 0 1;" + two);
        bench.due("3 of 6 (the wall is a CELL, too)", half.witness(0, 0), 3);
        bench.due("is no more than half", half.witness(0, 2), 1);
        HalfCourt odd = Bench.court("scene 3 by 1;minutes 1;" + two);
        bench.due("2 of 3", odd.witness(0, 2), 0);
        HalfCourt longer = Bench.court("scene 3 by 1;minutes 2;" + two);
        bench.due("2 of 6", longer.witness(0, 2), 1);
    }

    /** The WITNESS SEES 4; 6 CELLS, 2 MINUTES, his fee is 5. */
    private void dueLaw(String law, boolean heard) {
        HalfCourt court = Bench.court("scene 3 by 2;minutes 2;witness w at 1 0 looks left from 0 to 1 fee 5;law " + law + ";");
        bench.due("law " + law, court.witness(0, 2), heard ? 1 : 0);
    }

    private void formulas() {
        String[] so = {"sees=4", "cells=6", "minutes=2", "fee=5", "1", "7", "0-1", "1+2*3=7", "(1+2)*3=9", "7-2-1=4",
            "7-(2-1)=6", "9/2*2=8", "9%5*2=8", "2*9/4=4", "(0-7)/2=0-3", "(0-7)%2=0-1", "7/(0-2)=0-3", "7%(0-2)=1",
            "5/0=0", "5%0=0", "1<2", "2>1", "not 0", "not not 7", "(not not 7)=1", "(5 or 0)=1", "(5 and 7)=1", "not 1<0",
            "not 1 or 1", "not(1 and 0)", "1 or 0 and 0", "0 and 0 or 1", "(1<2)+(2<3)=2", "0 or 0 or 3", "5 and 6 and 7",
            "9999*9999*30<0", "8192*8192*32<0", "8192*8192*32/(0-1)<0", "8192*8192*32%(0-1)=0", "0 - 8192*8192*32 < 0",
            "8192*8192*32-1>0", "sees*2>cells and fee", "0001=1", "sees-fee<0", "1-1=0", "not sees-4", "minutes*cells/sees=3"};
        String[] not = {"0", "sees-4", "fee<5", "fee>5", "1=2", "not 5", "1 and 0", "0 or 0", "not 0 and 0", "(1 or 1)=2",
            "(not 0)=2", "2<2", "2>2", "5/0", "5%0", "0*9", "not not 0", "not(1 or 0)", "1 and(0 or 0)", "0-0", "3/4", "4%2"};
        for (String law : so) {
            dueLaw(law, true);
        }
        for (String law : not) {
            dueLaw(law, false);
        }
        HalfCourt each = Bench.court("scene 3 by 2;minutes 2;witness w at 1 0 looks left from 0 to 1 fee 5;"
                + "law fee=5;witness v at 1 0 looks left from 0 to 1 fee 6;");
        bench.due("the law is for each, w", each.witness(0, 2), 1);
        bench.due("the law is for each, v", each.witness(1, 2), 0);
    }

    private void scenes() {
        HalfCourt court = Bench.court("scene 3 by 2;minutes 2;thing k;thing h;thing m;thing n;wall at 2 1;"
                + "deed a k at 0 0 in 0 h at 0 0 in 0 n at 0 0 in 0 k at 2 1 in 1;deed b m at 1 0 in 1;");
        bench.due("three at once", court.scene(0, 0, 0, 0), 11);
        bench.due("later they are nowhere", court.scene(0, 0, 0, 1), 0);
        bench.due("at a wall", court.scene(0, 2, 1, 1), 1);
        bench.due("not ahead of it", court.scene(0, 2, 1, 0), 0);
        bench.due("another DEED", court.scene(1, 1, 0, 1), 4);
        bench.due("another place", court.scene(1, 0, 1, 1), 0);
    }
}
