/** Promises 6 to 8 and what "Terms" say of sight and of the law: who SEES what, by which EDGE not, who may be HEARD. */
public final class SightTest {
    private static final String RIGHT = "witness w at 0 0 looks right from 0 to 0 fee 1;";

    private final Bench bench = new Bench("SightTest");

    public static void main(String[] args) {
        SightTest test = new SightTest();
        test.minutes();
        test.sides();
        test.fog();
        test.fogEachWay();
        test.wallsBetween();
        test.halvesUp();
        test.wallThere();
        test.firstEdge();
        test.seesHowMany();
        test.lawOfEach();
        test.unitsOfTheLaw();
        test.wrapping();
        test.divisions();
        test.relations();
        test.orderOfSigns();
        test.zeroIsSentOut();
        test.halfOfAll();
        test.whatHeCouldSay();
        test.edges();
        test.edgesThatCannotBe();
        test.witnessesAsked();
        test.scenes();
        test.scenesThatCannotBe();
        test.bench.close();
    }

    private void terms(String words) {
        bench.words("Terms", words);
    }

    private void minutes() {
        terms("==== 2. A WITNESS at a CELL SEES a CELL in a MINUTE, if none of these EDGES holds (the first that does is told): "
                + "1 the MINUTE is not from .. to;");
        for (int from = 0; from < 5; from++) {
            for (int to = from; to < 5; to++) {
                HalfCourt court = Bench.court("scene 2 by 1;minutes 5;witness w at 0 0 looks right from " + from + " to " + to + " fee 1;");
                for (int minute = 0; minute < 5; minute++) {
                    bench.due(from + " to " + to + " in " + minute, court.edge(0, 1, 0, minute), minute < from || minute > to ? 1 : 0);
                }
            }
        }
    }

    private static String seer(String side) {
        return "witness " + side.charAt(0) + " at 1 1 looks " + side + " from 0 to 0 fee 1;";
    }

    private void sides() {
        terms("2 the CELL is not on his side (left: its x is less than his, right: more, up: its y is more, down: less);");
        HalfCourt court = Bench.court("scene 3 by 3;minutes 1;" + seer("left") + seer("right") + seer("up") + seer("down"));
        for (int y = 0; y < 3; y++) {
            for (int x = 0; x < 3; x++) {
                bench.due("left " + x + y, court.edge(0, x, y, 0), x < 1 ? 0 : 2);
                bench.due("right " + x + y, court.edge(1, x, y, 0), x > 1 ? 0 : 2);
                bench.due("up " + x + y, court.edge(2, x, y, 0), y > 1 ? 0 : 2);
                bench.due("down " + x + y, court.edge(3, x, y, 0), y < 1 ? 0 : 2);
            }
        }
        HalfCourt one = Bench.court("scene 1 by 1;minutes 1;witness w at 0 0 looks up from 0 to 0 fee 1;");
        bench.due("his own CELL", one.edge(0, 0, 0, 0), 2);
    }

    private void fog() {
        terms("3 the MINUTE has fog, and the greater of how far it is across and up is more than far;");
        for (int far = 0; far <= 9; far++) {
            HalfCourt court = Bench.court("scene 6 by 6;minutes 2;fog 1 far " + far + ";witness w at 0 0 looks right from 0 to 1 fee 1;");
            for (int y = 0; y < 6; y++) {
                for (int x = 1; x < 6; x++) {
                    bench.due("fog " + far + " at " + x + " " + y, court.edge(0, x, y, 1), Math.max(x, y) > far ? 3 : 0);
                    bench.due("no fog in MINUTE 0", court.edge(0, x, y, 0), 0);
                }
            }
        }
    }

    private void fogEachWay() {
        String[] sides = {"left", "right", "up", "down"};
        for (String side : sides) {
            HalfCourt court = Bench.court("scene 6 by 6;minutes 1;fog 0 far 2;witness w at 3 2 looks " + side + " from 0 to 0 fee 1;");
            for (int y = 0; y < 6; y++) {
                for (int x = 0; x < 6; x++) {
                    boolean on = side.equals("left") ? x < 3 : side.equals("right") ? x > 3 : side.equals("up") ? y > 2 : y < 2;
                    boolean near = x >= 1 && x <= 5 && y >= 0 && y <= 4;
                    bench.due(side + " to " + x + " " + y, court.edge(0, x, y, 0), !on ? 2 : near ? 0 : 3);
                }
            }
        }
    }

    private void dueEdge(String walls, String seer, int x, int y, int due) {
        StringBuilder text = new StringBuilder("scene 6 by 6;minutes 1;");
        for (String wall : walls.split(",")) {
            text.append(wall.isEmpty() ? "" : "wall at " + wall + ";");
        }
        String look = "witness w at " + seer + " from 0 to 0 fee 1;";
        bench.due(seer + " to " + x + " " + y + ", walls " + walls, Bench.court(text + look).edge(0, x, y, 0), due);
    }

    private void wallsBetween() {
        terms("4 a wall stands between: for n, that greater one, at a CELL that is i / n of the way (i from 1 to n - 1),");
        // On the way from 0 0 to 5 2 stand 1 0 (0.4), 2 1 (0.8), 3 1 (1.2), 4 2 (1.6).
        for (String on : new String[] {"1 0", "2 1", "3 1", "4 2"}) {
            dueEdge(on, "0 0 looks right", 5, 2, 4);
            dueEdge(on, "5 2 looks left", 0, 0, 4);
        }
        for (String off : new String[] {"0 0", "1 1", "2 0", "2 2", "3 0", "3 2", "4 1", "5 1", "0 1", "5 3", "4 3"}) {
            dueEdge(off, "0 0 looks right", 5, 2, 0);
        }
        for (int n = 1; n <= 5; n++) {
            for (int wall = 0; wall <= 5; wall++) {
                int due = wall == n ? 5 : wall > 0 && wall < n ? 4 : 0;
                dueEdge(wall + " 0", "0 0 looks right", n, 0, due);
                dueEdge("0 " + wall, "0 0 looks up", 0, n, due);
                dueEdge(wall + " " + wall, "0 0 looks up", n, n, due);
                dueEdge(5 - wall + " 0", "5 0 looks left", 5 - n, 0, due);
                dueEdge("3 " + (5 - wall), "3 5 looks down", 3, 5 - n, due);
            }
        }
        dueEdge("", "0 0 looks right", 5, 5, 0);
    }

    private void halvesUp() {
        terms("x and y each rounded to the nearest, halves up;");
        dueEdge("1 1", "0 0 looks right", 2, 1, 4);
        dueEdge("1 0", "0 0 looks right", 2, 1, 0);
        dueEdge("1 1", "0 1 looks right", 2, 0, 4);
        dueEdge("1 0", "0 1 looks right", 2, 0, 0);
        dueEdge("1 1", "1 2 looks down", 0, 0, 4);
        dueEdge("0 1", "1 2 looks down", 0, 0, 0);
        dueEdge("1 1", "0 2 looks down", 1, 0, 4);
        dueEdge("0 1", "0 2 looks down", 1, 0, 0);
        dueEdge("1 1", "2 1 looks left", 0, 0, 4);
        dueEdge("1 0", "2 1 looks left", 0, 0, 0);
        // From 0 2 to 4 0: 1 2 (1.5), 2 1, 3 1 (0.5).
        for (String on : new String[] {"1 2", "2 1", "3 1"}) {
            dueEdge(on, "0 2 looks right", 4, 0, 4);
        }
        for (String off : new String[] {"1 1", "3 0", "2 0", "2 2"}) {
            dueEdge(off, "0 2 looks right", 4, 0, 0);
        }
        // From 0 0 to 3 1 it is a third and two thirds, to 4 1 a quarter, a half, three quarters.
        dueEdge("1 0", "0 0 looks right", 3, 1, 4);
        dueEdge("2 1", "0 0 looks right", 3, 1, 4);
        dueEdge("1 1,2 0", "0 0 looks right", 3, 1, 0);
        dueEdge("1 0", "0 0 looks right", 4, 1, 4);
        dueEdge("2 1", "0 0 looks right", 4, 1, 4);
        dueEdge("3 1", "0 0 looks right", 4, 1, 4);
        dueEdge("1 1,2 0,3 0", "0 0 looks right", 4, 1, 0);
    }

    private void wallThere() {
        terms("5 a wall stands there.");
        dueEdge("5 2", "0 0 looks right", 5, 2, 5);
        dueEdge("1 0", "0 0 looks right", 1, 0, 5);
        dueEdge("0 0", "0 0 looks right", 1, 0, 0);
        dueEdge("5 2,3 1", "0 0 looks right", 5, 2, 4);
        dueEdge("3 1", "3 0 looks up", 3, 1, 5);
        dueEdge("3 1", "3 0 looks up", 3, 2, 4);
    }

    private void firstEdge() {
        terms("(the first that does is told)");
        HalfCourt court = Bench.court("scene 6 by 1;minutes 3;wall at 0 0;wall at 3 0;wall at 5 0;fog 1 far 2;fog 2 far 0;"
                + "witness w at 1 0 looks right from 1 to 2 fee 7;witness v at 1 0 looks right from 0 to 1 fee 8;");
        int[] early = {1, 1, 1, 1, 1, 1};
        int[] middle = {2, 2, 0, 5, 3, 3};
        int[] late = {2, 2, 3, 3, 3, 3};
        int[] clear = {2, 2, 0, 5, 4, 4};
        for (int x = 0; x < 6; x++) {
            bench.due("w early " + x, court.edge(0, x, 0, 0), early[x]);
            bench.due("w middle " + x, court.edge(0, x, 0, 1), middle[x]);
            bench.due("w late " + x, court.edge(0, x, 0, 2), late[x]);
            bench.due("v clear " + x, court.edge(1, x, 0, 0), clear[x]);
            bench.due("v middle " + x, court.edge(1, x, 0, 1), middle[x]);
            bench.due("v late " + x, court.edge(1, x, 0, 2), 1);
        }
    }

    private void seesHowMany() {
        terms("SEES of a WITNESS: how many (CELL, MINUTE) he does.");
        HalfCourt court = Bench.court("scene 6 by 6;minutes 5;witness a at 0 0 looks right from 0 to 4 fee 1;"
                + "witness b at 0 0 looks left from 0 to 4 fee 1;witness c at 0 0 looks up from 2 to 2 fee 1;"
                + "witness d at 5 5 looks down from 1 to 2 fee 1;witness e at 3 3 looks left from 0 to 4 fee 1;");
        int[] due = {150, 0, 30, 60, 90};
        for (int w = 0; w < due.length; w++) {
            bench.due("SEES of " + w, court.witness(w, 0), due[w]);
        }
        court = Bench.court("scene 3 by 2;minutes 2;wall at 1 1;fog 0 far 1;witness w at 0 1 looks right from 0 to 1 fee 1;");
        bench.due("1 0 in both MINUTES; the wall hides 2 0 and 2 1", court.witness(0, 0), 2);
    }

    private static int heard(String head, String law) {
        return Bench.court(head + "law " + law + ";").witness(0, 2);
    }

    /** The WITNESS SEES 4; 6 CELLS, 2 MINUTES, his fee is 5. */
    private void dueLaws(boolean so, String... laws) {
        for (String law : laws) {
            bench.due("law " + law, heard("scene 3 by 2;minutes 2;witness w at 1 0 looks left from 0 to 1 fee 5;", law), so ? 1 : 0);
        }
    }

    private void lawOfEach() {
        terms("The law is worked out for each WITNESS");
        String two = "scene 3 by 2;minutes 2;witness w at 1 0 looks left from 0 to 1 fee 5;law fee=5;"
                + "witness v at 1 0 looks left from 0 to 1 fee 6;";
        HalfCourt each = Bench.court(two);
        bench.due("w", each.witness(0, 2), 1);
        bench.due("v, told behind it", each.witness(1, 2), 0);
        HalfCourt last = Bench.court(two.replace("fee=5", "sees*0+fee>5"));
        bench.due("w", last.witness(0, 2), 0);
        bench.due("v", last.witness(1, 2), 1);
    }

    private void unitsOfTheLaw() {
        terms("(sees; cells, minutes of the scene; his fee;");
        dueLaws(true, "sees=4", "cells=6", "minutes=2", "fee=5", "0001=1", "sees*1000+cells*100+minutes*10+fee=4625", "(7)=7");
        dueLaws(false, "sees-4", "cells-6", "minutes-2", "fee-5");
        String big = "scene 6 by 6;minutes 5;witness w at 0 0 looks right from 0 to 4 fee 99;";
        bench.due("the greatest", heard(big, "sees=150 and cells=36 and minutes=5 and fee=99"), 1);
        String small = "scene 1 by 1;minutes 1;witness w at 0 0 looks right from 0 to 0 fee 1;";
        bench.due("the least", heard(small, "sees=0 and cells=1 and minutes=1 and fee=1"), 1);
    }

    private void wrapping() {
        terms("ints, wrapping;");
        dueLaws(true, "9999*9999*30<0", "8192*8192*32<0", "8192*8192*32-1>0", "0-8192*8192*32<0", "8192*8192*64=0",
                "8192*8192*31+(8192*8192-1)+1<0", "8192*8192*32=0-8192*8192*32");
        dueLaws(false, "8192*8192*64", "8192*8192*31<0");
    }

    private void divisions() {
        terms("/ cut, % its rest, both by 0: 0;");
        dueLaws(true, "7/2=3", "(0-7)/2=0-3", "7/(0-2)=0-3", "(0-7)/(0-2)=3", "7%2=1", "(0-7)%2=0-1", "7%(0-2)=1", "(0-7)%(0-2)=0-1",
                "5/0=0", "5%0=0", "0/0=0", "0%0=0", "(0-5)/0=0", "(0-5)%0=0", "8192*8192*32/0=0", "8192*8192*32%0=0",
                "8192*8192*32/(0-1)=8192*8192*32", "8192*8192*32%(0-1)=0", "1+5/(sees-4)=1", "5%(fee-5)+1=1", "4/4=1", "4%4=0");
        dueLaws(false, "5/0", "5%0", "0/0", "3/4", "4%2", "0%5");
    }

    private void relations() {
        terms("relations, and, or, not are 1 or 0, of what is not 0):");
        dueLaws(true, "1<2", "2>1", "2=2", "(1<2)=1", "(2<1)=0", "(2>1)=1", "(1>2)=0", "(3=3)=1", "(3=4)=0", "(1<2)+(2<3)=2",
                "0-2<0-1", "0-1>0-2", "not 0", "not not 7", "(not not 7)=1", "(not 0)=1", "(not 7)=0", "(not(0-1))=0",
                "(5 or 0)=1", "(0 or 5)=1", "(0 or 0)=0", "(5 or 7)=1", "(0-1 or 0)=1", "(0 or 0-1)=1",
                "(5 and 7)=1", "(5 and 0)=0", "(0 and 5)=0", "(0-1 and 0-1)=1", "(2 and 1)=1", "(2 or 1)=1", "(4 and 3)=1");
        dueLaws(false, "2<2", "2>2", "1=2", "0-1=1", "not 5", "not not 0", "1 and 0", "0 and 1", "0 or 0", "(1 or 1)=2", "(not 0)=2");
    }

    private void orderOfSigns() {
        dueLaws(true, "1+2*3=7", "(1+2)*3=9", "7-2-1=4", "7-(2-1)=6", "9/2*2=8", "9%5*2=8", "2*9/4=4", "8/4/2=1", "8/(4/2)=4",
                "1 or 0 and 0", "0 and 0 or 1", "0 or 0 or 3", "5 and 6 and 7", "not 1 or 1", "not 1<0", "not(1 and 0)", "not sees-4",
                "sees*2>cells and fee", "sees-fee<0", "1-1=0", "minutes*cells/sees=3", "1<2 and 2<3", "not 0 and 1", "2+3=1+4",
                "5-(3-0)=2", "5-(3-(0-1))=1", "7-(6-(5-(4-(3-(2-(1-0))))))=4", "9-2*(3*0)=9", "1 and(2 and not 0)");
        dueLaws(false, "(1 or 0) and 0", "not(1 or 0)", "1 and(0 or 0)", "0-0", "0*9", "not 0 and 0", "not 1 and 1",
                "5-(5-0)", "3*(2*(1*0))", "1 and(1 and 0)");
    }

    private void zeroIsSentOut() {
        terms("who has 0 is SENT OUT, all others may be HEARD.");
        dueLaws(true, "1", "7", "0-1", "9999", "8192*8192*32", "0-9999");
        dueLaws(false, "0", "0000", "1-1", "8192*8192*64");
    }

    private void halfOfAll() {
        terms("Without law: SENT OUT who SEES more than half of all (CELL, MINUTE).");
        String head = "scene 3 by 2;minutes 1;";
        String two = "witness w at 2 0 looks left from 0 to 0 fee 1;";
        HalfCourt more = Bench.court(head + two);
        bench.due("4 of 6", more.witness(0, 0), 4);
        bench.due("is more than half", more.witness(0, 2), 0);
        HalfCourt half = Bench.court(head + "wall at 0 1;" + two);
        bench.due("3 of 6 (the wall is a CELL, too)", half.witness(0, 0), 3);
        bench.due("is no more than half", half.witness(0, 2), 1);
        bench.due("2 of 3 in one MINUTE", Bench.court("scene 3 by 1;minutes 1;" + two).witness(0, 2), 0);
        bench.due("1 of 3", Bench.court("scene 3 by 1;minutes 1;wall at 0 0;" + two).witness(0, 2), 1);
        bench.due("2 of 6 in two MINUTES", Bench.court("scene 3 by 1;minutes 2;" + two).witness(0, 2), 1);
        bench.due("1 of 2", Bench.court("scene 2 by 1;minutes 1;witness w at 0 0 looks right from 0 to 0 fee 1;").witness(0, 2), 1);
        bench.due("0 of 1", Bench.court("scene 1 by 1;minutes 1;witness w at 0 0 looks right from 0 to 0 fee 1;").witness(0, 2), 1);
        String all = "scene 6 by 6;minutes 5;witness w at 2 0 looks right from 0 to 4 fee 1;";
        bench.due("90 of 180", Bench.court(all).witness(0, 2), 1);
        bench.due("120 of 180", Bench.court(all.replace("at 2 0", "at 1 0")).witness(0, 2), 0);
        // 5 CELLS of 3 MINUTES are 15: 7 are less than half, 8 are more.
        String odd = "scene 5 by 1;minutes 3;fog 0 far 2;fog 1 far %;witness w at 0 0 looks right from 0 to 2 fee 1;";
        bench.due("7 of 15", Bench.court(odd.replace("%", "1")).witness(0, 2), 1);
        bench.due("8 of 15", Bench.court(odd.replace("%", "2")).witness(0, 2), 0);
        bench.due("a law of 1 HEARS him", Bench.court(head + two + "law 1;").witness(0, 2), 1);
    }

    private void whatHeCouldSay() {
        terms("What he could SAY of a DEED: for each CELL in each MINUTE that he SEES which THINGS are there.");
        HalfCourt court = Bench.court("scene 3 by 1;minutes 2;thing k;thing h;witness w at 1 0 looks left from 0 to 0 fee 1;deed a;"
                + "deed b k at 0 0 in 0;deed c h at 0 0 in 0;deed d k at 0 0 in 0 h at 0 0 in 0;deed e k at 2 0 in 0;deed f k at 0 0 in 1;"
                + "deed g k at 1 0 in 0;");
        int[] said = {0, 1, 2, 3, 0, 0, 0};
        for (int a = 0; a < 7; a++) {
            for (int b = 0; b < 7; b++) {
                bench.due(a + " and " + b, court.parts(0, a, b), said[a] != said[b] ? 1 : 0);
            }
        }
    }

    private void edges() {
        bench.words("edge", "The EDGE by which a WITNESS does not see a CELL in a MINUTE; 0 if he SEES it;");
        HalfCourt court = Bench.court("scene 6 by 1;minutes 3;wall at 3 0;fog 1 far 4;witness w at 1 0 looks right from 1 to 2 fee 7;law 0;");
        bench.due("1", court.edge(0, 2, 0, 0), 1);
        bench.due("2", court.edge(0, 1, 0, 1), 2);
        bench.due("3", Bench.court("scene 6 by 1;minutes 1;fog 0 far 4;" + RIGHT).edge(0, 5, 0, 0), 3);
        bench.due("4", court.edge(0, 4, 0, 1), 4);
        bench.due("5", court.edge(0, 3, 0, 1), 5);
        bench.due("0, SENT OUT or not", court.edge(0, 2, 0, 1), 0);
    }

    private void edgesThatCannotBe() {
        bench.words("edge", "NONE if one can't be.");
        HalfCourt court = Bench.court("scene 3 by 2;minutes 2;thing k;deed a;" + seer("left"));
        int[][] wrong = {{-1, 0, 0, 0}, {1, 0, 0, 0}, {0, -1, 0, 0}, {0, 3, 0, 0}, {0, 0, -1, 0}, {0, 0, 2, 0},
            {0, 0, 0, -1}, {0, 0, 0, 2}, {Integer.MAX_VALUE, 0, 0, 0}, {0, Integer.MIN_VALUE, 0, 0}, {0, 0, Integer.MAX_VALUE, 0},
            {0, 0, 0, Integer.MIN_VALUE}, {10, 0, 0, 0}, {0, 6, 0, 0}, {0, 0, 6, 0}, {0, 0, 0, 5}};
        for (int[] w : wrong) {
            bench.due("edge", court.edge(w[0], w[1], w[2], w[3]), -1);
        }
        bench.due("it can be", court.edge(0, 2, 1, 1), 1);
        bench.due("no MINUTES", Bench.court("scene 3 by 2;").edge(0, 0, 0, 0), -1);
    }

    private void witnessesAsked() {
        bench.words("witness", "Of a WITNESS what 0: SEES, 1: his fee, 2: 1 if he may be HEARD, else 0;");
        HalfCourt court = Bench.court("scene 3 by 2;minutes 2;" + seer("left") + "witness v at 1 0 looks left from 0 to 1 fee 99;law fee=1;");
        bench.dueAll("the first", 0, court.witness(0, 0) - 2, court.witness(0, 1) - 1, court.witness(0, 2) - 1);
        bench.dueAll("the second", 0, court.witness(1, 0) - 4, court.witness(1, 1) - 99, court.witness(1, 2));
        bench.words("witness", "NONE if there is none such, or for another what.");
        for (int what = 0; what < 3; what++) {
            bench.dueAll("none such", -1, court.witness(-1, what), court.witness(2, what), court.witness(10, what),
                    court.witness(Integer.MAX_VALUE, what), court.witness(Integer.MIN_VALUE, what));
        }
        bench.dueAll("another what", -1, court.witness(0, -1), court.witness(0, 3), court.witness(1, Integer.MAX_VALUE),
                court.witness(1, Integer.MIN_VALUE));
    }

    private void scenes() {
        bench.words("scene", "Which THINGS are at a CELL in a MINUTE by a DEED, as bits;");
        HalfCourt court = Bench.court("scene 3 by 2;minutes 2;thing k;thing h;thing m;thing n;wall at 2 1;"
                + "deed a k at 0 0 in 0 h at 0 0 in 0 n at 0 0 in 0 k at 2 1 in 1;deed b m at 1 0 in 1;");
        bench.due("three at once", court.scene(0, 0, 0, 0), 11);
        bench.due("later they are nowhere", court.scene(0, 0, 0, 1), 0);
        bench.due("at a wall", court.scene(0, 2, 1, 1), 1);
        bench.due("not ahead of it", court.scene(0, 2, 1, 0), 0);
        bench.due("another DEED", court.scene(1, 1, 0, 1), 4);
        bench.due("another place", court.scene(1, 0, 1, 1), 0);
        // The last of all DEEDS, THINGS, MINUTES and CELLS, and each one's neighbours in a row that holds them all.
        StringBuilder full = new StringBuilder("scene 6 by 6;minutes 5;thing a;thing b;thing c;thing d;");
        for (int deed = 0; deed < 8; deed++) {
            full.append("deed ").append((char) ('a' + deed)).append(" a at 5 5 in 0 d at 5 5 in 4 b at ").append(deed % 6).append(" 0 in 2;");
        }
        court = Bench.court(full.toString());
        int[] due = {1, 0, 0, 0, 8};
        for (int deed = 0; deed < 8; deed++) {
            for (int minute = 0; minute < 5; minute++) {
                bench.due("scene(" + deed + ", 5, 5, " + minute + ")", court.scene(deed, 5, 5, minute), due[minute]);
                bench.due("scene(" + deed + ", .., 0, " + minute + ")", court.scene(deed, deed % 6, 0, minute), minute == 2 ? 2 : 0);
            }
        }
    }

    private void scenesThatCannotBe() {
        bench.words("scene", "NONE if one can't be.");
        HalfCourt court = Bench.court("scene 3 by 2;minutes 2;thing k;deed a;" + seer("left") + "witness v at 0 0 looks up from 0 to 0 fee 1;");
        int[][] wrong = {{-1, 0, 0, 0}, {1, 0, 0, 0}, {0, -1, 0, 0}, {0, 3, 0, 0}, {0, 0, -1, 0}, {0, 0, 2, 0},
            {0, 0, 0, -1}, {0, 0, 0, 2}, {Integer.MAX_VALUE, 0, 0, 0}, {0, Integer.MIN_VALUE, 0, 0}, {0, 0, Integer.MAX_VALUE, 0},
            {0, 0, 0, Integer.MIN_VALUE}, {8, 0, 0, 0}, {0, 6, 0, 0}, {0, 0, 6, 0}, {0, 0, 0, 5}};
        for (int[] w : wrong) {
            bench.due("scene", court.scene(w[0], w[1], w[2], w[3]), -1);
        }
        bench.due("it can be", court.scene(0, 2, 1, 1), 0);
        bench.due("no DEEDS", Bench.court("scene 3 by 2;minutes 2;").scene(0, 0, 0, 0), -1);
    }
}
