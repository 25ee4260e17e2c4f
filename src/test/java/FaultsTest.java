/** Promises 4 and 5: which texts are CASES, and the FAULTS of the others, each at the ^. */
public final class FaultsTest {
    private static final String HEAD = "scene 3 by 2;minutes 2;";
    private static final String THINGS = HEAD + "thing k;thing h;";

    private final Bench bench = new Bench("FaultsTest");

    public static void main(String[] args) {
        FaultsTest test = new FaultsTest();
        test.wholeTexts();
        test.noTokens();
        test.order();
        test.sceneAndMinutes();
        test.walls();
        test.fogs();
        test.things();
        test.deeds();
        test.sixtyThingsOfDeeds();
        test.witnesses();
        test.laws();
        test.unitsOfTheLaw();
        test.nesting();
        test.longText();
        test.bench.close();
    }

    private void wholeTexts() {
        bench.dueNoFault("");
        bench.dueNoFault(" \n ");
        bench.dueNoFault("scene 1 by 1;");
        bench.dueNoFault("scene 6 by 6 ; minutes 5 ;");
        bench.dueNoFault("scene0006 by\n0006;minutes0005;");
        bench.dueNoFault(THINGS + "deed a;");
        bench.dueNoFault("scene 1 by 1;minutes 1;law 1;thing e;thing both;thing one;thing sum;deed e;deed term;"
                + "witness e at 0 0 looks up from 0 to 0 fee 1;");
    }

    private void noTokens() {
        bench.dueFault(1, "^Scene 1 by 1;");
        bench.dueFault(1, "^@");
        bench.dueFault(1, "scene^\t1 by 1;");
        bench.dueFault(1, "scene 1 by 1;^\r\n");
        bench.dueFault(1, "scene 1 by 1^,");
        bench.dueFault(1, "scene 1 by 1; ^\u00e9");
        bench.dueFault(1, "scene 1 by 1; ^\u0000");
        bench.dueFault(1, "scene ^12345 by 1;");
        bench.dueFault(1, "scene ^00001 by 1;");
        bench.dueFault(1, "scene ^1by 1;");
        bench.dueFault(1, "scene ^9by 1;");
        bench.dueFault(1, HEAD + "thing ^abcdefghi;");
        bench.dueNoFault(HEAD + "thing abcdefgh;");
        bench.dueNoFault(HEAD + "thing ijklmnop;thing qrstuvwx;thing yz;");
        bench.dueFault(1, HEAD + "thing ^`;");
        bench.dueFault(1, HEAD + "thing z^{");
        bench.dueFault(1, "scene ^:");
        bench.dueNoFault("scene 6 by 6;minutes 5;fog 0 far 9;fog 1 far 8;fog 2 far 7;law 6789;");
        bench.dueFault(1, HEAD + "^minutesss");
        bench.dueFault(1, HEAD + "thing k;deed a ^witnesses;");
        bench.dueFault(2, HEAD + "thing k^2;");
    }

    private void order() {
        bench.dueFault(2, "^;");
        bench.dueFault(2, "^minutes 1;");
        bench.dueFault(2, "^thing k;");
        bench.dueFault(2, "^k");
        bench.dueFault(2, "^1");
        bench.dueFault(2, "scene 1 by 1;^scene 1 by 1;");
        bench.dueFault(2, "scene 1 by 1;^wall at 0 0;");
        bench.dueFault(2, "scene 1 by 1;^thing k;minutes 1;");
        bench.dueFault(2, HEAD + "^minutes 1;");
        bench.dueFault(2, HEAD + "^scene 1 by 1;");
        bench.dueFault(2, HEAD + "thing k;^minutes 2;");
        bench.dueFault(2, HEAD + "^;");
        bench.dueFault(2, HEAD + "^by");
        bench.dueFault(2, HEAD + "^k");
    }

    private void sceneAndMinutes() {
        bench.dueFault(4, "scene ^0 by 1;");
        bench.dueFault(4, "scene ^7 by 1;");
        bench.dueFault(4, "scene 1 by ^0;");
        bench.dueFault(4, "scene 6 by ^7;");
        bench.dueFault(2, "scene ^by 1;");
        bench.dueFault(2, "scene 1 ^1;");
        bench.dueFault(2, "scene 1 by^;");
        bench.dueFault(2, "scene 1 by 1 ^1;");
        bench.dueFault(2, "scene^");
        bench.dueFault(2, "scene 1 by 1  ^");
        bench.dueFault(4, "scene 1 by 1;minutes ^0;");
        bench.dueFault(4, "scene 1 by 1;minutes ^6;");
        bench.dueFault(2, "scene 1 by 1;minutes^;");
        bench.dueFault(2, "scene 1 by 1;minutes 5^");
    }

    private void walls() {
        bench.dueFault(4, HEAD + "wall at ^3 0;");
        bench.dueFault(4, HEAD + "wall at 2 ^2;");
        bench.dueFault(2, HEAD + "wall ^2 1;");
        bench.dueFault(2, HEAD + "wall at 2^;");
        bench.dueFault(3, HEAD + "wall at 2 1;wall at 1 1;wall at 2 ^1;");
        bench.dueNoFault(HEAD + "wall at 0 0;wall at 0 1;wall at 1 0;wall at 1 1;wall at 2 0;wall at 2 1;");
        StringBuilder many = new StringBuilder("scene 6 by 6;minutes 1;");
        for (int i = 0; i < 12; i++) {
            many.append("wall at ").append(i % 6).append(' ').append(i / 6).append(';');
        }
        bench.dueNoFault(many.toString());
        bench.dueFault(2, many + "^wall at 0 0;");
        bench.dueFault(2, many + "^wall at 9 @;");
    }

    private void fogs() {
        bench.dueNoFault(HEAD + "fog 0 far 0;fog 1 far 9;");
        bench.dueFault(4, HEAD + "fog ^2 far 0;");
        bench.dueFault(4, HEAD + "fog 1 far ^10;");
        bench.dueFault(2, HEAD + "fog 1 ^0;");
        bench.dueFault(2, HEAD + "fog ^far 0;");
        bench.dueFault(3, HEAD + "fog 1 far 0;fog ^1 far 0;");
        String all = "scene 1 by 1;minutes 5;fog 4 far 1;fog 3 far 1;fog 2 far 1;fog 1 far 1;fog 0 far 1;";
        bench.dueNoFault(all);
        bench.dueFault(2, all + "^fog 0 far 1;");
    }

    private void things() {
        bench.dueNoFault(HEAD + "thing a;thing b;thing c;thing d;");
        bench.dueFault(2, HEAD + "thing a;thing b;thing c;thing d;^thing e;");
        bench.dueFault(2, HEAD + "thing a;thing b;thing c;thing d;^thing a;");
        bench.dueFault(3, HEAD + "thing a;thing ^a;");
        bench.dueFault(2, HEAD + "thing ^1;");
        bench.dueFault(2, HEAD + "thing^;");
        bench.dueFault(2, HEAD + "thing a ^b;");
        String own = "scene by minutes wall at fog far thing deed in witness looks left right up down from to fee law or and not"
                + " sees cells";
        for (String word : own.split(" ")) {
            bench.dueFault(2, HEAD + "thing ^" + word + ";");
            bench.dueFault(2, HEAD + "deed ^" + word + ";");
            bench.dueFault(2, HEAD + "witness ^" + word + " at 0 0");
        }
    }

    private void deeds() {
        bench.dueNoFault(THINGS + "deed k k at 0 0 in 0 h at 0 0 in 0 k at 2 1 in 1;deed h h at 0 0 in 0;");
        bench.dueNoFault(THINGS + "wall at 0 0;deed a k at 0 0 in 0;");
        bench.dueFault(5, THINGS + "deed a ^m at 0 0 in 0;");
        bench.dueFault(5, HEAD + "deed a ^k at 0 0 in 0;thing k;");
        bench.dueFault(2, THINGS + "deed a ^at 0 0 in 0;");
        bench.dueFault(2, THINGS + "deed a k ^0 0 in 0;");
        bench.dueFault(4, THINGS + "deed a k at ^3 0 in 0;");
        bench.dueFault(4, THINGS + "deed a k at 0 ^2 in 0;");
        bench.dueFault(4, THINGS + "deed a k at 0 0 in ^2;");
        bench.dueFault(2, THINGS + "deed a k at 0 0 ^0;");
        bench.dueFault(2, THINGS + "deed a k at 0 0 in^;");
        bench.dueFault(3, THINGS + "deed a k at 0 0 in 0 k at 1 0 in ^0;");
        bench.dueFault(3, THINGS + "deed a k at 0 0 in 1 h at 0 0 in 1 k at 0 0 in ^1;");
        bench.dueFault(3, THINGS + "deed a;deed ^a;");
        bench.dueFault(2, THINGS + "deed^;");
        bench.dueFault(2, THINGS + "deed a ^1;");
        bench.dueFault(2, THINGS + "deed a^");
        String eight = HEAD + "deed a;deed b;deed c;deed d;deed e;deed f;deed g;deed h;";
        bench.dueNoFault(eight);
        bench.dueFault(2, eight + "^deed i;");
    }

    private void sixtyThingsOfDeeds() {
        StringBuilder text = new StringBuilder("scene 1 by 1;minutes 5;thing a;thing b;thing c;thing d;");
        for (int deed = 0; deed < 3; deed++) {
            text.append("deed ").append((char) ('a' + deed));
            for (int i = 0; i < 20; i++) {
                text.append(' ').append((char) ('a' + i / 5)).append(" at 0 0 in ").append(i % 5);
            }
            text.append(';');
        }
        bench.dueNoFault(text + "deed d;");
        bench.dueFault(2, text + "deed d ^a at 0 0 in 0;");
        bench.dueFault(2, text + "deed d ^x at 0 0 in 0;");
        bench.dueFault(1, text + "deed d ^A at 0 0 in 0;");
    }

    private void witnesses() {
        String to = HEAD + "witness w at 0 0 looks left from ";
        bench.dueNoFault(HEAD + "wall at 2 1;witness w at 2 1 looks down from 1 to 1 fee 99;");
        bench.dueFault(4, HEAD + "witness w at ^3 0");
        bench.dueFault(4, HEAD + "witness w at 0 ^2");
        bench.dueFault(2, HEAD + "witness w ^0 0");
        bench.dueFault(2, HEAD + "witness w^;");
        bench.dueFault(2, HEAD + "witness w at 0^;");
        bench.dueFault(2, HEAD + "witness w at 0 0^;");
        bench.dueFault(2, HEAD + "witness w at 0 0 looks^;");
        bench.dueFault(2, HEAD + "witness w at 0 0 looks left^;");
        bench.dueFault(2, HEAD + "witness w at 0 0 ^left");
        bench.dueFault(2, HEAD + "witness w at 0 0 looks ^from 0");
        bench.dueFault(2, HEAD + "witness w at 0 0 looks ^in");
        bench.dueFault(2, HEAD + "witness w at 0 0 looks ^sideways");
        bench.dueFault(4, to + "^2 to 2 fee 1;");
        bench.dueFault(4, to + "0 to ^2 fee 1;");
        bench.dueFault(4, to + "1 to ^0 fee 1;");
        bench.dueFault(2, to + "1 ^1 fee 1;");
        bench.dueFault(4, to + "1 to 1 fee ^0;");
        bench.dueFault(4, to + "1 to 1 fee ^100;");
        bench.dueFault(2, to + "1 to 1^;");
        bench.dueFault(2, to + "1 to 1 fee 1 ^1;");
        bench.dueFault(3, to + "1 to 1 fee 1;witness ^w");
        StringBuilder ten = new StringBuilder(HEAD);
        for (int i = 0; i < 10; i++) {
            ten.append("witness ").append((char) ('a' + i)).append(" at 0 0 looks up from 0 to 0 fee 1;");
        }
        bench.dueNoFault(ten.toString());
        bench.dueFault(2, ten + "^witness z at 0 0 looks up from 0 to 0 fee 1;");
        HalfCourt court = new HalfCourt();
        bench.due("trial() of ten", Bench.tell(court, ten.toString()), 10);
    }

    private void laws() {
        bench.dueNoFault(HEAD + "law sees*2>cells*minutes or not fee=3 and(1);");
        bench.dueNoFault(HEAD + "law(((1)));");
        bench.dueFault(2, HEAD + "law^;");
        bench.dueFault(2, HEAD + "law 1;^law 1;");
        bench.dueFault(2, HEAD + "law ^k;");
        bench.dueFault(2, HEAD + "law ^-1;");
        bench.dueFault(2, HEAD + "law 1 < 2 ^< 3;");
        bench.dueFault(2, HEAD + "law 1 + ^not 1;");
        bench.dueFault(2, HEAD + "law 1 < ^not 1;");
        bench.dueFault(2, HEAD + "law (1^;");
        bench.dueFault(2, HEAD + "law 1^);");
        bench.dueFault(2, HEAD + "law 1 or^;");
        bench.dueFault(2, HEAD + "law 1 and ^or 1;");
        bench.dueFault(2, HEAD + "law 1 ^1;");
        bench.dueFault(2, HEAD + "law 1 ^sees;");
        bench.dueFault(2, HEAD + "law (^);");
        bench.dueFault(2, HEAD + "law 1 * ^;");
        bench.dueFault(2, HEAD + "law 1 + ^;");
        bench.dueFault(2, HEAD + "law 1 and^;");
        bench.dueFault(2, HEAD + "law 1 =^;");
        bench.dueFault(2, HEAD + "law not^;");
        bench.dueFault(2, HEAD + "law (1)^(1);");
        bench.dueFault(2, HEAD + "law 1 ^not 1;");
        bench.dueFault(1, HEAD + "law 1 ^& 1;");
        bench.dueFault(1, HEAD + "law ^1or 1;");
    }

    private void unitsOfTheLaw() {
        String thirty = HEAD + "law 1" + "+1".repeat(29);
        bench.dueNoFault(thirty + ";");
        bench.dueFault(2, thirty + "+^1;");
        bench.dueFault(2, thirty + "-^(1);");
        String within = HEAD + "law 1" + "+1".repeat(27) + "+(1";
        bench.dueNoFault(within + ");");
        bench.dueFault(2, within + "+^1);");
        HalfCourt court = Bench.court(within + ");");
        bench.due("about(10): a unit ( e ) is one, too", court.about(10), 30);
    }

    private void nesting() {
        String seven = HEAD + "law " + "(".repeat(7);
        bench.dueNoFault(seven + "1" + ")".repeat(7) + ";");
        bench.dueFault(2, seven + "^(1" + ")".repeat(8) + ";");
        bench.dueFault(2, seven + "^not 1" + ")".repeat(7) + ";");
        String nots = HEAD + "law " + "not ".repeat(7);
        bench.dueNoFault(nots + "1;");
        bench.dueFault(2, nots + "^not 1;");
        bench.dueFault(2, nots + "^(1);");
        bench.dueFault(2, nots + "1 = ^(1);");
        String mixed = HEAD + "law not(not(not(not";
        bench.dueNoFault(mixed + " 1)));");
        bench.dueFault(2, mixed + "^(1))));");
        bench.dueFault(2, mixed + " ^not 1)));");
        bench.dueNoFault(HEAD + "law not 1 and " + "not ".repeat(7) + "1 or " + "(".repeat(7) + "1" + ")".repeat(7) + ";");
    }

    private void longText() {
        String head = "scene 1 by 1;";
        bench.dueNoFault(head + " ".repeat(1700 - head.length()));
        bench.dueFault(2, "scene 1 by 1" + " ".repeat(1700 - 12) + "^");
        StringBuilder nots = new StringBuilder("scene 1 by 1;minutes 1;law 0");
        for (int i = 1; i < 30; i++) {
            nots.append(" or ").append("not ".repeat(7)).append('0');
        }
        HalfCourt court = Bench.court(nots + ";witness w at 0 0 looks up from 0 to 0 fee 1;");
        bench.due("a law of 30 units and 203 nots", court.about(10), 30);
        bench.due("is worked out", court.witness(0, 2), 1);
    }
}
