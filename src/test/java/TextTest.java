import java.util.Arrays;

/** The CASE's text, sentence by sentence of "Terms": which texts are CASES, and the FAULTS of the others, each at the ^. */
public final class TextTest {
    private static final String HEAD = "scene 3 by 2;minutes 2;";
    private static final String THINGS = HEAD + "thing k;thing h;";
    private static final String OWN_WORDS = "scene by minutes wall at fog far thing deed in witness looks left right up down"
            + " from to fee law or and not sees cells";
    private static final String SIGNS = ";()<>=+-*/%";
    private static final String SEEN = " at 0 0 looks up from 0 to 0 fee 1;";

    private final Bench bench = new Bench("TextTest");

    public static void main(String[] args) {
        TextTest test = new TextTest();
        test.length();
        test.linesTokenByToken();
        test.formulasTokenByToken();
        test.formulasOfEachForm();
        test.words();
        test.numbers();
        test.signsAndOtherBytes();
        test.blanks();
        test.longestTokens();
        test.letterBehindNumber();
        test.ownWords();
        test.sceneNumbers();
        test.minutes();
        test.orderOfLines();
        test.shortTexts();
        test.walls();
        test.fogs();
        test.things();
        test.deeds();
        test.thingOnceInAMinute();
        test.sixtyInAll();
        test.nowhere();
        test.witnesses();
        test.fromAndTo();
        test.fees();
        test.numberedAsTold();
        test.lawOnce();
        test.thirtyUnits();
        test.within();
        test.firstByPlace();
        test.placeOfTheEnd();
        test.leastAtOnePlace();
        test.noToken();
        test.cannotStand();
        test.sixtyFirst();
        test.unitTooMany();
        test.toldAlready();
        test.toldAlreadyAtTheMinute();
        test.cannotBe();
        test.noThing();
        test.bench.close();
    }

    private void terms(String words) {
        bench.words("Terms", words);
    }

    private void length() {
        terms("A CASE is a text of at most 1,700 bytes (empty at first): case = {line}.");
        bench.due("empty at first", new HalfCourt().about(0), 0);
        String scene = "scene 1 by 1;";
        bench.dueNoFault(scene + " ".repeat(1700 - 13));
        bench.dueNoFault("scene 1 by 1" + " ".repeat(1700 - 13) + ";");
        bench.dueFault(2, "scene 1 by" + " ".repeat(1700 - 11) + "1^");
        bench.dueFault(2, "scene 1 " + "\n".repeat(1700 - 10) + "by^");
        bench.dueFault(1, scene + " ".repeat(1700 - 14) + "^@");
        HalfCourt court = new HalfCourt();
        Bench.feed(court, scene + " ".repeat(1700 - 13));
        bench.due("a 1701st byte does not come", court.feed(0, 0, 0, 0, 0), -1);
        bench.due("so that 1700 are tried", court.trial(), 0);
        bench.due("and are the CASE", court.about(0), 1);
        bench.dueNoFault(HEAD + "wall at 0 0;fog 0 far 1;thing a;deed a;witness a" + SEEN + "law 1;wall at 1 0;fog 1 far 1;thing b;");
    }

    private static String join(String[] tokens, int count) {
        return String.join(" ", Arrays.copyOf(tokens, count)) + (count > 0 ? " " : "");
    }

    /** Each TOKEN of a line in turn is one that can't stand, none at all, a number that can't be, or not there. */
    private void eachToken(String before, String line) {
        String[] tokens = line.split(" ");
        bench.dueNoFault(before + line);
        for (int i = 0; i < tokens.length; i++) {
            String start = before + join(tokens, i);
            String rest = " " + line.substring(Math.min(line.length(), join(tokens, i + 1).length()));
            bench.dueFault(2, start + "^<" + rest);
            bench.dueFault(1, start + "^@" + rest);
            if (i > 0) {
                bench.dueFault(2, start + "^");
            }
            if (Character.isDigit(tokens[i].charAt(0))) {
                bench.dueFault(4, start + "^9999" + rest);
                bench.dueFault(1, start + "^00000" + rest);
                bench.dueFault(2, start + "^at" + rest);
            } else {
                bench.dueFault(2, start + "^1" + rest);
            }
        }
    }

    private static String sortOf(String token) {
        return Character.isDigit(token.charAt(0)) ? "N" : token.length() == 1 && Character.isLetter(token.charAt(0)) ? "NAME" : token;
    }

    /** Each run of TOKENS of a line is left out: the FAULT is at the first that is of another sort than the line has there. */
    private void eachGap(String before, String line) {
        String[] tokens = line.split(" ");
        for (int from = 0; from < tokens.length; from++) {
            for (int to = from + 1; to <= tokens.length && to - from < tokens.length; to++) {
                StringBuilder text = new StringBuilder(before);
                int place = -1;
                for (int i = 0; i < tokens.length - (to - from); i++) {
                    String token = tokens[i < from ? i : i + to - from];
                    place = place < 0 && !sortOf(token).equals(sortOf(tokens[i])) ? text.length() : place;
                    text.append(token).append(' ');
                }
                bench.dueAnswer(text.toString(), 2, place < 0 ? text.length() : place);
            }
        }
    }

    private void linesTokenByToken() {
        terms("line = scene N by N ; | minutes N ; | wall at N N ; | fog N far N ; | thing NAME ; | "
                + "deed NAME {NAME at N N in N} ; | "
                + "witness NAME at N N looks (left | right | up | down) from N to N fee N ; | law e ;.");
        eachToken("", "scene 2 by 3 ;");
        eachToken("scene 2 by 3;", "minutes 4 ;");
        eachToken(HEAD, "wall at 2 1 ;");
        eachToken(HEAD, "fog 1 far 3 ;");
        eachToken(HEAD, "thing k ;");
        eachToken(THINGS, "deed a ;");
        eachToken(THINGS, "deed a k at 2 1 in 1 ;");
        eachToken(THINGS, "deed a k at 0 0 in 0 h at 0 0 in 0 k at 2 1 in 1 ;");
        for (String side : new String[] {"left", "right", "up", "down"}) {
            eachToken(HEAD, "witness w at 2 1 looks " + side + " from 0 to 1 fee 9 ;");
        }
        eachGap("", "scene 1 by 1 ;");
        eachGap("scene 1 by 1;", "minutes 1 ;");
        eachGap(HEAD, "wall at 1 1 ;");
        eachGap(HEAD, "fog 1 far 1 ;");
        eachGap(HEAD, "thing k ;");
        eachGap(HEAD, "witness w at 1 1 looks left from 1 to 1 fee 1 ;");
        bench.dueFault(2, THINGS + "deed k ^at 1 1 in 1;");
        bench.dueFault(2, THINGS + "deed a ^at 1 1 in 1;");
        bench.dueFault(2, THINGS + "deed a k ^1 1 in 1;");
        bench.dueFault(2, THINGS + "deed a k at 1 ^in 1;");
        bench.dueFault(2, THINGS + "deed a k at 1 1 ^1;");
        bench.dueFault(2, THINGS + "deed a k at 1 1 in ^h at 1 1 in 1;");
        bench.dueFault(2, THINGS + "deed a k at 1 1 ^h at 1 1 in 1;");
        bench.dueFault(2, THINGS + "deed a k ^h at 1 1 in 1;");
        bench.dueFault(2, THINGS + "deed a k at 1 1 in 1 ^at 1 1 in 1;");
        bench.dueFault(2, THINGS + "deed a k at 1 1 in 1 ^deed b;");
        bench.dueFault(2, HEAD + "witness w at 0 0 looks ^sideways");
        bench.dueFault(2, HEAD + "witness w at 0 0 looks ^in");
        bench.dueFault(2, HEAD + "witness w at 0 0 looks ^from 0");
        bench.dueNoFault(HEAD + "law 1;");
        bench.dueFault(2, HEAD + "law^;");
        bench.dueFault(2, HEAD + "thing a ^b;");
        bench.dueFault(2, "scene 1 by 1 ^1;");
        bench.dueFault(2, HEAD + "^;");
        bench.dueFault(2, HEAD + "wall at 0 0;^;");
    }

    private void formulasTokenByToken() {
        terms("e = both {or both}. both = one {and one}. one = not one | sum [(< | > | =) sum]. sum = term {(+ | -) term}. "
                + "term = unit {(* | / | %) unit}. unit = N | sees | cells | minutes | fee | ( e ).");
        String[] formulas = {"1", "sees", "cells", "minutes", "fee", "( 1 )", "( sees or 1 )", "1 or 2 or 3", "1 and 2 and 3",
            "not 1", "not not 1", "1 < 2", "1 > 2", "1 = 2", "1 + 2 - 3 + 4", "1 * 2 / 3 % 4", "not 1 < 2 or 3",
            "not ( sees + 1 ) * 2 > cells and fee or minutes % 7 - 2 = 0"};
        for (String formula : formulas) {
            String[] tokens = ("law " + formula + " ;").split(" ");
            bench.dueNoFault(HEAD + join(tokens, tokens.length));
            for (int i = 1; i < tokens.length; i++) {
                bench.dueFault(2, HEAD + join(tokens, i) + "^k ;");
                bench.dueFault(2, HEAD + join(tokens, i) + "^by ;");
                bench.dueFault(1, HEAD + join(tokens, i) + "^@ ;");
                bench.dueFault(2, HEAD + join(tokens, i) + "^");
            }
        }
    }

    private void formulasOfEachForm() {
        String[] wrong = {"^-1", "^or 1", "^and 1", "^* 1", "^< 1", "^)", "1 < 2 ^< 3", "1 = 2 ^> 3", "1 + ^not 1", "1 < ^not 1",
            "1 * ^not 1", "1 or ^or 1", "1 and ^or 1", "1 ^1", "1 ^sees", "1 ^not 1", "1 ^( 1 )", "(^)", "( 1 ) ^( 1 )", "( 1 ^;",
            "1 ^)", "( 1 ) ^)", "1 + ^+ 1", "1 * ^* 1", "1 + ^* 1", "1 = ^= 1", "not^", "not ^or", "not ^)", "1 or^", "1 and^", "1 <^",
            "1 >^", "1 =^", "1 +^", "1 -^", "1 *^", "1 /^", "1 %^", "(1 <^)", "(1 or^)", "(1 and^)", "(1 +^)", "(1 *^)", "(not^)"};
        for (String formula : wrong) {
            bench.dueFault(2, HEAD + "law " + formula + ";");
        }
        bench.dueNoFault(HEAD + "law sees*2>cells*minutes or not fee=3 and(1);");
        bench.dueNoFault(HEAD + "law(((1)));");
        bench.dueNoFault(HEAD + "law 1<(2<(3<4));");
        bench.dueNoFault(HEAD + "law 1+(not 1)*(not not 2);");
    }

    private void words() {
        terms("TOKENS: words (a .. z, 8 at most),");
        for (char letter = 'a'; letter <= 'z'; letter++) {
            bench.dueNoFault(HEAD + "thing " + letter + ";");
            bench.dueNoFault(HEAD + "thing " + ("" + letter).repeat(8) + ";");
            bench.dueFault(1, HEAD + "thing ^" + ("" + letter).repeat(9) + ";");
        }
        bench.dueFault(1, HEAD + "thing ^abcdefghi;");
        bench.dueFault(1, HEAD + "^minutesss");
        bench.dueFault(1, HEAD + "thing k;deed a ^witnesses;");
        bench.dueFault(1, "^scenescene 1 by 1;");
        bench.dueFault(1, HEAD + "thing ^" + "k".repeat(1000) + ";");
        bench.dueFault(1, "^Scene 1 by 1;");
        bench.dueFault(1, HEAD + "thing ^K;");
        bench.dueFault(1, HEAD + "thing k^K;");
        bench.dueFault(1, HEAD + "thing ^`;");
        bench.dueFault(1, HEAD + "thing z^{;");
        bench.dueNoFault(HEAD + "thing abcdefga;thing abcdefgb;thing bbcdefga;thing aaaaaaaa;");
        bench.dueNoFault(HEAD + "thing a;thing aa;thing aaa;thing aaaa;");
    }

    private void numbers() {
        terms("N (1 to 4 digits),");
        bench.dueNoFault("scene 1 by 01;minutes 001;fog 0 far 9;law 0001+0+00+000+0000;");
        for (int digit = 0; digit <= 9; digit++) {
            bench.dueNoFault(HEAD + "law " + digit + ";");
            bench.dueNoFault(HEAD + "law " + digit + digit + digit + digit + ";");
            bench.dueFault(1, HEAD + "law ^" + digit + digit + digit + digit + digit + ";");
        }
        bench.dueFault(1, "scene ^00001 by 1;");
        bench.dueFault(1, "scene ^12345 by 1;");
        bench.dueFault(1, "scene ^4294967297 by 1;");
        bench.dueFault(1, "scene ^" + "1".repeat(1000));
        bench.dueFault(1, "scene ^:");
        bench.due("9999 is itself", Bench.court(HEAD + "witness w" + SEEN + "law 9999=9998+1;").witness(0, 2), 1);
    }

    private void signsAndOtherBytes() {
        terms("signs ; ( ) < > = + - * / %;");
        for (int one = 0; one < 256; one++) {
            boolean blank = one == ' ' || one == '\n';
            boolean letter = one >= 'a' && one <= 'z';
            boolean digit = one >= '0' && one <= '9';
            boolean token = letter || digit || SIGNS.indexOf(one) >= 0;
            bench.dueAnswer("" + (char) one, blank ? 0 : token ? 2 : 1, blank ? -1 : 0);
            boolean stands = blank || one == '0';
            int fault = stands ? 0 : digit ? 4 : token ? 2 : 1;
            bench.dueAnswer("scene" + (char) one + "1 by 1;", fault, stands ? -1 : letter ? 0 : 5);
            boolean behind = blank || one == ';';
            bench.dueAnswer("scene 1 by 1" + (one == ';' ? "" : ";") + (char) one, behind ? 0 : token ? 2 : 1, behind ? -1 : 13);
        }
    }

    private void blanks() {
        terms("blanks (32, 10) part them or not;");
        bench.dueNoFault("scene6 by6;minutes5;");
        bench.dueNoFault("scene\n6\nby\n6\n;\nminutes\n5\n;\n");
        bench.dueNoFault("  scene   6 \n by \n\n 6  ;  minutes 5 ;  ");
        bench.dueNoFault(HEAD + "thing k;deed a k at0 0 in0 k at2 1 in1;witness w at0 0 looks up from0 to1 fee3;wall at1 1;fog0 far1;"
                + "law(sees)and(not(1))or fee*2<3;");
        bench.dueNoFault(HEAD + "law ( 1 + 2 ) * 3 < 4 ;");
        bench.dueNoFault(" \n ");
        bench.dueFault(2, "^sce ne 1 by 1;");
        bench.dueFault(2, "scene 1 ^1 by 1;");
        bench.dueFault(2, "scene 1 by 1 ^2;");
        for (char other : new char[] {0, 9, 11, 12, 13, 31, 33, 127, 160, 138, 255}) {
            bench.dueFault(1, "scene^" + other + "1 by 1;");
            bench.dueFault(1, "scene 1 by 1;^" + other);
        }
    }

    private void longestTokens() {
        terms("each is as long as can be;");
        bench.dueFault(2, "^scenes 1 by 1;");
        bench.dueFault(2, "scene 1 ^byy 1;");
        bench.dueFault(2, HEAD + "^lawnot 1;");
        bench.dueFault(2, HEAD + "law ^notsees;");
        bench.dueFault(2, HEAD + "law 1 ^orsees;");
        bench.dueFault(2, HEAD + "^walls at 0 0;");
        bench.dueFault(4, HEAD + "wall at ^10 0;");
        bench.dueFault(4, HEAD + "fog 0 far ^10;");
        bench.dueFault(4, HEAD + "witness w at 0 0 looks up from 0 to 0 fee ^100;");
        bench.dueNoFault(HEAD + "thing scenes;thing lawnot;thing byy;deed walls lawnot at 0 0 in 0;");
        bench.dueNoFault(HEAD + "thing nota;thing ato;thing inn;thing fro;");
        bench.dueFault(2, HEAD + "thing k^2;");
        bench.dueFault(2, HEAD + "law 12 ^34;");
        HalfCourt court = new HalfCourt();
        Bench.feed(court, "scene 1 by 12");
        court.end(12);
        bench.dueAll("a TOKEN ends with the text", 2, court.trial() + 3, court.fault(0), court.fault(1) - 10);
    }

    private void letterBehindNumber() {
        terms("no letter directly behind an N.");
        for (char letter = 'a'; letter <= 'z'; letter++) {
            bench.dueFault(1, "scene ^1" + letter + "y 1;");
            bench.dueFault(1, HEAD + "law ^1234" + letter + ";");
        }
        bench.dueFault(1, "scene ^1by 1;");
        bench.dueFault(1, "scene ^9by 1;");
        bench.dueFault(1, HEAD + "law ^1or 1;");
        bench.dueNoFault("scene 1 by 1;");
        bench.dueNoFault("scene 1\nby 1;");
        bench.dueNoFault(HEAD + "law(1)or(1);");
        HalfCourt court = new HalfCourt();
        Bench.feed(court, "scene 1 by 1x");
        court.end(12);
        bench.due("a letter that was cut off", court.trial(), -1);
        bench.due("is not behind it", court.fault(0), 2);
        bench.due("at the end", court.fault(1), 12);
        bench.dueFault(2, "scene 1 by" + " ".repeat(1700 - 11) + "1^");
    }

    private void ownWords() {
        terms("Words that stand for themselves here are no NAMES.");
        for (String word : OWN_WORDS.split(" ")) {
            bench.dueFault(2, HEAD + "thing ^" + word + ";");
            bench.dueFault(2, THINGS + "deed ^" + word + ";");
            bench.dueFault(2, THINGS + "deed a ^" + word + " at 0 0 in 0;");
            bench.dueFault(2, HEAD + "witness ^" + word + SEEN);
            bench.dueNoFault(HEAD + "thing x" + (word.length() < 8 ? word : "") + ";");
        }
        for (String word : "case line name n e both one sum term unit tokens x y a z".split(" ")) {
            bench.dueNoFault(HEAD + "thing " + word + ";deed " + word + " " + word + " at 0 0 in 0;witness " + word + SEEN);
        }
    }

    private void sceneNumbers() {
        terms("scene (across 1 .. 6, up 1 .. 6: CELLS by x, y from 0)");
        for (int across = 0; across <= 7; across++) {
            for (int up = 0; up <= 7; up++) {
                boolean wide = across >= 1 && across <= 6;
                boolean tall = up >= 1 && up <= 6;
                bench.dueAnswer("scene " + across + " by " + up + ";", wide && tall ? 0 : 4, wide && tall ? -1 : wide ? 11 : 6);
            }
        }
        HalfCourt court = Bench.court("scene 6 by 2;minutes 1;deed a;");
        bench.due("across", court.about(0), 6);
        bench.due("up", court.about(1), 2);
        bench.dueAll("the CELLS", 0, court.scene(0, 0, 0, 0), court.scene(0, 5, 0, 0), court.scene(0, 0, 1, 0), court.scene(0, 5, 1, 0));
        bench.dueAll("no CELLS", -1, court.scene(0, 6, 0, 0), court.scene(0, 0, 2, 0), court.scene(0, -1, 0, 0), court.scene(0, 0, -1, 0));
    }

    private void minutes() {
        terms("and minutes (1 .. 5)");
        for (int minutes = 0; minutes <= 6; minutes++) {
            boolean stands = minutes >= 1 && minutes <= 5;
            bench.dueAnswer("scene 1 by 1;minutes " + minutes + ";deed a;", stands ? 0 : 4, stands ? -1 : 21);
            HalfCourt court = new HalfCourt();
            Bench.tell(court, "scene 1 by 1;minutes " + minutes + ";deed a;");
            bench.due("MINUTES", court.about(2), stands ? minutes : 0);
            bench.due("the last MINUTE", court.scene(0, 0, 0, minutes - 1), stands ? 0 : -1);
            bench.due("one behind it", court.scene(0, 0, 0, minutes), -1);
        }
    }

    private void orderOfLines() {
        terms("come first, in this order, once each, other lines behind both alone");
        bench.dueFault(2, "^minutes 1;");
        bench.dueFault(2, "^minutes 1;scene 1 by 1;");
        bench.dueFault(2, "scene 1 by 1;^scene 1 by 1;");
        bench.dueFault(2, HEAD + "^scene 3 by 2;");
        bench.dueFault(2, HEAD + "^minutes 2;");
        bench.dueFault(2, HEAD + "thing k;^minutes 2;");
        bench.dueFault(2, HEAD + "thing k;^scene 3 by 2;");
        String[] others = {"wall at 0 0;", "fog 0 far 1;", "thing k;", "deed a;", "witness w" + SEEN, "law 1;"};
        for (String other : others) {
            bench.dueFault(2, "^" + other);
            bench.dueFault(2, "^" + other + HEAD);
            bench.dueFault(2, "scene 3 by 2;^" + other);
            bench.dueFault(2, "scene 3 by 2;^" + other + "minutes 2;");
            bench.dueNoFault(HEAD + other);
            for (String next : others) {
                boolean again = other.equals(next);
                bench.due("any order behind them: " + other + next, Bench.tell(new HalfCourt(), HEAD + other + next) >= 0, !again);
            }
        }
        bench.dueFault(2, "^k");
        bench.dueFault(2, "^1");
        bench.dueFault(2, HEAD + "^k");
        bench.dueFault(2, HEAD + "^by");
    }

    private void shortTexts() {
        terms("(a text may be empty, or end behind scene: no MINUTES then, no CELLS without scene).");
        bench.dueNoFault("");
        bench.dueNoFault(" ");
        bench.dueNoFault("scene 1 by 1;");
        HalfCourt court = Bench.court("scene 4 by 3;");
        bench.dueAll("across 4, up 3, no MINUTES", 0, court.about(0) - 4, court.about(1) - 3, court.about(2));
        bench.due("no MINUTE", court.blind(0), -1);
        bench.due("but CELLS", court.seat(3, 2, 3), 0);
        court = Bench.court("");
        bench.dueAll("no scene", 0, court.about(0), court.about(1), court.about(2));
        bench.dueAll("no CELLS", -1, court.seat(0, 0, 0), court.bestSeat(0), court.blind(0));
    }

    private static String walls(int count) {
        StringBuilder text = new StringBuilder("scene 6 by 6;minutes 1;");
        for (int i = 0; i < count; i++) {
            text.append("wall at ").append(i % 6).append(' ').append(i / 6 * 5).append(';');
        }
        return text.toString();
    }

    private void walls() {
        terms("Then 12 walls (each CELL once),");
        bench.dueNoFault(walls(12));
        bench.due("12", Bench.court(walls(12)).about(3), 12);
        bench.dueFault(2, walls(12) + "^wall at 0 1;");
        bench.dueFault(2, walls(12) + "thing k;^wall at 0 1;");
        bench.dueFault(2, walls(12) + "^wall at 0 0;");
        bench.dueFault(2, walls(12) + "^wall @");
        bench.dueFault(3, walls(11) + "wall at 0 ^0;");
        bench.dueFault(3, walls(11) + "wall at 4 ^5;");
        bench.dueNoFault(HEAD + "wall at 0 1;wall at 1 0;");
        bench.dueNoFault(HEAD + "wall at 0 0;wall at 0 1;wall at 1 0;wall at 1 1;wall at 2 0;wall at 2 1;");
        bench.dueFault(3, HEAD + "wall at 2 1;wall at 1 1;wall at 02 ^001;");
        bench.dueFault(4, HEAD + "wall at ^3 0;");
        bench.dueFault(4, HEAD + "wall at 0 ^2;");
        bench.dueFault(4, "scene 2 by 6;minutes 1;wall at ^2 5;");
        bench.dueNoFault("scene 2 by 6;minutes 1;wall at 1 5;");
    }

    private void fogs() {
        terms("5 fogs (a MINUTE, once; far 0 .. 9),");
        String all = "scene 1 by 1;minutes 5;fog 4 far 0;fog 3 far 9;fog 2 far 1;fog 1 far 8;fog 0 far 1;";
        bench.dueNoFault(all);
        for (int minute = 0; minute < 5; minute++) {
            bench.dueFault(2, all + "^fog " + minute + " far 1;");
            bench.dueFault(3, "scene 1 by 1;minutes 5;fog " + minute + " far 0;fog ^" + minute + " far 1;");
        }
        for (int far = 0; far <= 9; far++) {
            bench.dueNoFault(HEAD + "fog 0 far " + far + ";");
        }
        bench.dueFault(4, HEAD + "fog 0 far ^10;");
        bench.dueFault(4, HEAD + "fog ^2 far 1;");
        bench.dueNoFault(HEAD + "fog 1 far 1;");
        bench.dueFault(4, "scene 6 by 6;minutes 5;fog ^5 far 1;");
    }

    private void things() {
        terms("4 THINGS,");
        String four = HEAD + "thing a;thing b;thing c;thing d;";
        bench.dueNoFault(four);
        bench.due("4", Bench.court(four).about(4), 4);
        bench.dueFault(2, four + "^thing e;");
        bench.dueFault(2, four + "^thing a;");
        bench.dueFault(2, four + "deed a;^thing e;");
    }

    private void deeds() {
        terms("8 DEEDS (of THINGS told ahead, CELL, MINUTE;");
        String eight = HEAD + "deed a;deed b;deed c;deed d;deed e;deed f;deed g;deed h;";
        bench.dueNoFault(eight);
        bench.due("8", Bench.court(eight).about(5), 8);
        bench.dueFault(2, eight + "^deed i;");
        bench.dueFault(2, eight + "thing k;^deed a;");
        bench.dueNoFault(HEAD + "deed a;thing k;deed b k at 0 0 in 0;");
        bench.dueFault(5, HEAD + "deed a ^k at 0 0 in 0;thing k;");
        bench.dueFault(5, HEAD + "thing h;deed a h at 0 0 in 0 ^k at 0 0 in 0;thing k;");
        bench.dueNoFault(THINGS + "deed a k at 2 1 in 1;");
        bench.dueFault(4, THINGS + "deed a k at ^3 1 in 1;");
        bench.dueFault(4, THINGS + "deed a k at 2 ^2 in 1;");
        bench.dueFault(4, THINGS + "deed a k at 2 1 in ^2;");
        bench.dueNoFault(THINGS + "wall at 0 0;deed a k at 0 0 in 0;");
    }

    private void thingOnceInAMinute() {
        terms("each THING once in a MINUTE,");
        bench.dueFault(3, THINGS + "deed a k at 0 0 in 0 k at 1 0 in ^0;");
        bench.dueFault(3, THINGS + "deed a k at 0 0 in 0 k at 0 0 in ^0;");
        bench.dueFault(3, THINGS + "deed a k at 0 0 in 1 h at 0 0 in 1 k at 0 0 in 0 h at 2 1 in ^1;");
        bench.dueNoFault(THINGS + "deed a k at 0 0 in 0 k at 0 0 in 1;");
        bench.dueNoFault(THINGS + "deed a k at 0 0 in 0 h at 0 0 in 0;");
        bench.dueNoFault(THINGS + "deed a k at 0 0 in 0;deed b k at 0 0 in 0;");
    }

    /** DEEDS of 20 THINGS each, all of which a scene of five MINUTES can hold. */
    private static String placed(int deeds) {
        StringBuilder text = new StringBuilder("scene 1 by 1;minutes 5;thing a;thing b;thing c;thing d;");
        for (int deed = 0; deed < deeds; deed++) {
            text.append("deed ").append((char) ('a' + deed));
            for (int i = 0; i < 20; i++) {
                text.append(' ').append((char) ('a' + i / 5)).append(" at 0 0 in ").append(i % 5);
            }
            text.append(';');
        }
        return text.toString();
    }

    private void sixtyInAll() {
        terms("60 in all;");
        bench.dueNoFault(placed(3));
        bench.dueNoFault(placed(3) + "deed d;deed e;");
        bench.dueFault(2, placed(3) + "deed d ^a at 0 0 in 0;");
        bench.dueFault(2, placed(3) + "deed d;deed e ^d at 0 0 in 4;");
        String near = placed(2) + "deed x";
        for (int i = 0; i < 19; i++) {
            near += " " + (char) ('a' + i / 5) + " at 0 0 in " + i % 5;
        }
        bench.dueNoFault(near + ";deed y a at 0 0 in 0;");
        bench.dueFault(2, near + ";deed y a at 0 0 in 0 ^a at 0 0 in 1;");
        bench.due("the last of 60 is there", Bench.court(near + " d at 0 0 in 4;").scene(2, 0, 0, 4), 15);
    }

    private void nowhere() {
        terms("where it is not told, it is nowhere),");
        HalfCourt court = Bench.court(THINGS + "deed a;deed b k at 1 1 in 1;");
        for (int minute = 0; minute < 2; minute++) {
            for (int cell = 0; cell < 6; cell++) {
                bench.due("a", court.scene(0, cell % 3, cell / 3, minute), 0);
                bench.due("b", court.scene(1, cell % 3, cell / 3, minute), cell == 4 && minute == 1 ? 1 : 0);
            }
        }
    }

    private void witnesses() {
        terms("10 WITNESSES (CELL;");
        StringBuilder ten = new StringBuilder(HEAD);
        for (int i = 0; i < 10; i++) {
            ten.append("witness ").append((char) ('a' + i)).append(SEEN);
        }
        bench.dueNoFault(ten.toString());
        bench.due("10", Bench.tell(new HalfCourt(), ten.toString()), 10);
        bench.dueFault(2, ten + "^witness z" + SEEN);
        bench.dueFault(2, ten + "^witness a" + SEEN);
        bench.dueNoFault(HEAD + "witness w at 2 1 looks down from 0 to 0 fee 1;");
        bench.dueFault(4, HEAD + "witness w at ^3 1 looks down from 0 to 0 fee 1;");
        bench.dueFault(4, HEAD + "witness w at 2 ^2 looks down from 0 to 0 fee 1;");
        bench.dueNoFault(HEAD + "wall at 2 1;witness w at 2 1 looks down from 0 to 0 fee 1;witness v at 2 1 looks up from 0 to 0 fee 1;");
    }

    private void fromAndTo() {
        terms("MINUTES from .. to, the second not below the first;");
        String head = "scene 1 by 1;minutes 5;witness w at 0 0 looks up from ";
        int from = head.length();
        for (int a = 0; a <= 5; a++) {
            for (int b = 0; b <= 5; b++) {
                boolean stands = a < 5 && b < 5 && b >= a;
                bench.dueAnswer(head + a + " to " + b + " fee 1;", stands ? 0 : 4, stands ? -1 : a == 5 ? from : from + 5);
            }
        }
    }

    private void fees() {
        terms("fee 1 .. 99),");
        String head = HEAD + "witness w at 0 0 looks up from 0 to 0 fee ";
        bench.dueFault(4, head + "^0;");
        bench.dueFault(4, head + "^0000;");
        bench.dueFault(4, head + "^100;");
        for (int fee = 1; fee <= 99; fee += 49) {
            bench.dueNoFault(head + fee + ";");
            bench.due("fee", Bench.court(head + fee + ";").witness(0, 1), fee);
        }
    }

    private void numberedAsTold() {
        terms("numbered as told, each sort by itself;");
        HalfCourt court = Bench.court(HEAD + "thing z;witness z at 0 0 looks up from 0 to 0 fee 7;deed z z at 0 0 in 0;thing a;"
                + "deed m a at 0 0 in 0 z at 0 0 in 0;witness a at 0 0 looks up from 0 to 0 fee 5;thing m;deed a m at 0 0 in 0;"
                + "witness m at 0 0 looks up from 0 to 0 fee 6;");
        bench.dueAll("z, then m, then a", 0, court.scene(0, 0, 0, 0) - 1, court.scene(1, 0, 0, 0) - 3, court.scene(2, 0, 0, 0) - 4);
        bench.dueAll("z, then a, then m", 0, court.witness(0, 1) - 7, court.witness(1, 1) - 5, court.witness(2, 1) - 6);
        bench.dueAll("three of each", 3, court.about(4), court.about(5), court.about(6));
    }

    private void lawOnce() {
        terms("law once");
        bench.dueFault(2, HEAD + "law 1;^law 1;");
        bench.dueFault(2, HEAD + "law 0;thing k;^law 2;");
        bench.dueNoFault(HEAD + "thing k;law 1;thing h;");
    }

    private void thirtyUnits() {
        terms("(30 units;");
        bench.due("30", Bench.court(HEAD + "law 1" + "+1".repeat(29) + ";").about(10), 30);
        String[] joints = {" or ", " and ", "+", "-", "*", "/", "%"};
        String[] units = {"1", "sees", "cells", "minutes", "fee", "(1)"};
        for (String joint : joints) {
            String thirty = HEAD + "law 1" + (joint + "1").repeat(29);
            bench.dueNoFault(thirty + ";");
            for (String unit : units) {
                bench.dueFault(2, thirty + joint + "^" + unit + ";");
                String last = HEAD + "law 1" + (joint + "1").repeat(28) + joint + unit;
                bench.due("the 30th is " + unit, Bench.tell(new HalfCourt(), last + ";") >= 0, !unit.equals("(1)"));
            }
        }
        bench.dueFault(2, HEAD + "law 1" + "+1".repeat(29) + "=^1;");
        String within = HEAD + "law 1" + "+1".repeat(27) + "+(1";
        bench.dueNoFault(within + ");");
        bench.dueFault(2, within + "+^1);");
        bench.due("about(10): a unit ( e ) is one, too", Bench.court(within + ");").about(10), 30);
        bench.due("N, sees, cells, minutes, fee, ( e )", Bench.court(HEAD + "law 1+sees+cells+minutes+fee+(1);").about(10), 7);
        bench.due("nots are no units", Bench.court(HEAD + "law not not 1 and not 2;").about(10), 2);
        StringBuilder nots = new StringBuilder("scene 1 by 1;minutes 1;witness w at 0 0 looks up from 0 to 0 fee 1;law 1");
        for (int i = 1; i < 30; i++) {
            nots.append(" and ").append("not ".repeat(7)).append(i < 29 ? '0' : '1');
        }
        HalfCourt court = Bench.court(nots + ";");
        bench.due("30 units and 203 nots", court.about(10), 30);
        bench.due("are worked out to the last", court.witness(0, 2), 0);
        bench.due("and are 1 else", Bench.court(nots.substring(0, nots.length() - 1) + "0;").witness(0, 2), 1);
    }

    private void within() {
        terms("a unit ( e ), or a one behind not, within 6 others at most).");
        for (int mix = 0; mix < 1 << 7; mix++) {
            StringBuilder open = new StringBuilder(HEAD + "law ");
            StringBuilder close = new StringBuilder();
            for (int i = 0; i < 7; i++) {
                open.append((mix >> i & 1) == 1 ? "(" : "not ");
                close.append((mix >> i & 1) == 1 ? ")" : "");
            }
            bench.dueNoFault(open + "1" + close + ";");
            bench.dueFault(2, open + "^(1)" + close + ";");
            bench.dueFault(2, open + "^not 1" + close + ";");
            bench.dueFault(2, open + "1+^(1)" + close + ";");
        }
        String deep = "(".repeat(7) + "1" + ")".repeat(7);
        bench.dueNoFault(HEAD + "law " + deep + "+" + deep + ";");
        bench.dueNoFault(HEAD + "law not 1" + " and not 1".repeat(20) + ";");
        bench.dueNoFault(HEAD + "law not 1 and " + "not ".repeat(7) + "1 or " + deep + ";");
        bench.dueNoFault(HEAD + "law not 1=" + "(".repeat(6) + "1" + ")".repeat(6) + ";");
        bench.dueFault(2, HEAD + "law not 1=" + "(".repeat(6) + "^(1" + ")".repeat(7) + ";");
        bench.dueNoFault(HEAD + "law not 1 and " + deep + ";");
    }

    private void firstByPlace() {
        terms("FAULTS, the first by its place (bytes from 0;");
        bench.dueFault(1, "^@");
        bench.dueFault(4, "scene ^7 by @;");
        bench.dueFault(1, "scene ^@ by 7;");
        bench.dueFault(4, "scene ^7 by 0;@");
        bench.dueFault(2, "^wall at 9 9 @;");
        bench.dueFault(3, THINGS + "thing ^k;@");
        bench.dueFault(5, THINGS + "deed a ^m at 9 9 in 9;");
        bench.dueFault(2, HEAD + "law 1 ^1 @;");
        bench.dueFault(2, HEAD + "law " + "(".repeat(7) + "^(" + "1+".repeat(40) + "1");
    }

    private void placeOfTheEnd() {
        terms("the end: the text's length),");
        bench.dueFault(2, "scene^");
        bench.dueFault(2, "scene   ^");
        bench.dueFault(2, "scene 1 by 1 \n ^");
        bench.dueFault(2, "scene 1 by 1;minutes 5^");
        bench.dueFault(2, THINGS + "deed a^");
        bench.dueFault(2, HEAD + "law (1^");
        bench.dueFault(2, HEAD + "law not ^");
        bench.dueFault(2, "scene 1 by 1" + " ".repeat(1700 - 12) + "^");
    }

    private void leastAtOnePlace() {
        terms("at one place the least:");
        bench.dueFault(1, "scene ^77777 by 1;");
        bench.dueFault(1, "scene ^7x by 1;");
        bench.dueFault(2, placed(3) + "deed d ^x at 0 0 in 0;");
        bench.dueFault(1, placed(3) + "deed d ^A at 0 0 in 0;");
        bench.dueFault(1, placed(3) + "deed d ^xxxxxxxxx at 0 0 in 0;");
        bench.dueFault(1, HEAD + "law 1" + "+1".repeat(29) + "+^@;");
        bench.dueFault(1, HEAD + "law 1" + "+1".repeat(29) + "+^12345;");
        bench.dueFault(1, walls(12) + "^wallwallw at 0 0;");
    }

    private void noToken() {
        terms("1 no TOKEN;");
        bench.dueFault(1, "scene 1 by 1^,");
        bench.dueFault(1, "scene 1 by 1;^\r\n");
        bench.dueFault(1, "scene 1 by 1; ^\u00e9");
        bench.dueFault(1, "scene 1 by 1; ^\u0000");
        bench.dueFault(1, HEAD + "law 1 ^& 1;");
        bench.dueFault(1, HEAD + "^Law 1;");
        bench.dueFault(1, THINGS + "deed a k at 0 0 in ^_1;");
    }

    private void cannotStand() {
        terms("2 one that can't stand there (one of a sort too many, a second time, ahead of its time: at the line's first word;");
        bench.dueFault(2, walls(12) + "^wall at 5 4;");
        bench.dueFault(2, HEAD + "thing a;thing b;thing c;thing d;^thing e;");
        bench.dueFault(2, HEAD + "deed a;deed b;deed c;deed d;deed e;deed f;deed g;deed h;^deed i;");
        bench.dueFault(2, "scene 1 by 1;^scene 2 by 2;");
        bench.dueFault(2, HEAD + "^minutes 1;");
        bench.dueFault(2, HEAD + "law 1;^law 0;");
        bench.dueFault(2, "^minutes 1;");
        bench.dueFault(2, "^thing k;");
        bench.dueFault(2, "scene 1 by 1;^law 1;");
        bench.dueFault(2, "scene 1 ^at 1;");
        bench.dueFault(2, THINGS + "deed a k at 0 0 ^at 0;");
        bench.dueFault(2, HEAD + "wall at ^-1 0;");
    }

    private void sixtyFirst() {
        terms("a 61st THING of DEEDS: at its NAME;");
        bench.dueFault(2, placed(3) + "deed d ^a at 0 0 in 0;");
        bench.dueFault(2, placed(3) + "deed d ^a @");
        bench.dueFault(2, placed(3) + "deed d;deed e;deed f;deed g;deed h ^b;");
    }

    private void unitTooMany() {
        terms("a unit too many, what is within 7 others: at its first TOKEN, or the not);");
        String thirty = HEAD + "law 1" + "*1".repeat(29);
        bench.dueFault(2, thirty + " or ^1;");
        bench.dueFault(2, thirty + " or ^(1);");
        bench.dueFault(2, thirty + " or not ^1;");
        bench.dueFault(2, thirty + " or not not ^(1);");
        bench.dueFault(2, thirty + " or ^;");
        bench.dueFault(2, HEAD + "law " + "(".repeat(7) + "^(1" + ")".repeat(8) + ";");
        bench.dueFault(2, HEAD + "law " + "not ".repeat(7) + "^not 1;");
        bench.dueFault(2, HEAD + "law " + "not ".repeat(7) + "^not (1);");
        bench.dueFault(2, HEAD + "law " + "not ".repeat(7) + "^(1);");
        bench.dueFault(2, HEAD + "law not(not(not(not^(1))));");
        bench.dueFault(2, HEAD + "law not(not(not(not ^not 1)));");
    }

    private void toldAlready() {
        terms("3 a NAME told already (of its sort), a wall told already (at its y),");
        bench.dueFault(3, HEAD + "thing a;thing ^a;");
        bench.dueFault(3, HEAD + "thing a;thing b;thing c;thing ^a;");
        bench.dueFault(3, HEAD + "deed a;deed ^a;");
        bench.dueFault(3, THINGS + "deed a k at 0 0 in 0;deed ^a k at 0 0 in 0;");
        bench.dueFault(3, HEAD + "witness a" + SEEN + "witness ^a" + SEEN);
        bench.dueFault(3, HEAD + "thing abcdefgh;thing ^abcdefgh;");
        bench.dueNoFault(HEAD + "thing a;deed a a at 0 0 in 0;witness a" + SEEN);
        bench.dueNoFault(HEAD + "deed a;witness a" + SEEN + "thing a;");
        bench.dueFault(3, HEAD + "wall at 1 1;wall at 1 ^1;");
        bench.dueFault(3, HEAD + "wall at 2 0;wall at 0 1;wall at 2 ^0;");
        bench.dueNoFault(HEAD + "wall at 1 1;wall at 1 0;wall at 0 1;");
    }

    private void toldAlreadyAtTheMinute() {
        terms("a MINUTE of fog, of that THING in that DEED told already (at the MINUTE);");
        bench.dueFault(3, HEAD + "fog 1 far 0;fog ^1 far 0;");
        bench.dueFault(3, HEAD + "fog 0 far 5;fog ^0 far 12;");
        bench.dueFault(3, HEAD + "fog 0 far 5;fog ^0000 @");
        bench.dueNoFault(HEAD + "fog 1 far 0;fog 0 far 0;");
        bench.dueFault(3, THINGS + "deed a h at 2 1 in 1 h at 0 0 in 0 h at 0 0 in ^1;");
        bench.dueFault(3, THINGS + "deed a h at 0 0 in 0;deed b h at 0 0 in 0 h at 0 0 in ^0;");
        bench.dueNoFault(THINGS + "deed a h at 0 0 in 0;deed b h at 0 0 in 0 k at 0 0 in 0 h at 0 0 in 1;");
    }

    private void cannotBe() {
        terms("4 a number that can't be (to below from, too);");
        bench.dueFault(4, "scene ^0 by 1;");
        bench.dueFault(4, "scene 1 by ^7;");
        bench.dueFault(4, "scene 1 by 1;minutes ^6;");
        bench.dueFault(4, HEAD + "wall at ^3 0;");
        bench.dueFault(4, HEAD + "wall at 0 ^9999;");
        bench.dueFault(4, HEAD + "fog ^2 far 0;");
        bench.dueFault(4, HEAD + "fog 1 far ^10;");
        bench.dueFault(4, HEAD + "witness w at 0 0 looks left from ^2 to 0 fee 1;");
        bench.dueFault(4, HEAD + "witness w at 0 0 looks left from 1 to ^0 fee 1;");
        bench.dueFault(4, HEAD + "witness w at 0 0 looks left from 0 to ^2 fee 1;");
        bench.dueFault(4, HEAD + "witness w at 0 0 looks left from 0 to 0 fee ^0;");
        bench.dueNoFault(HEAD + "law 9999;");
    }

    private void noThing() {
        terms("5 a NAME that no THING has.");
        bench.dueFault(5, THINGS + "deed a ^m at 0 0 in 0;");
        bench.dueFault(5, THINGS + "deed a ^a at 0 0 in 0;");
        bench.dueFault(5, THINGS + "deed a ^kk at 0 0 in 0;");
        bench.dueFault(5, THINGS + "witness w" + SEEN + "deed a ^w at 0 0 in 0;");
        bench.dueFault(5, THINGS + "deed b;deed a ^b at 0 0 in 0;");
        bench.dueFault(5, THINGS + "deed a k at 0 0 in 0 ^m;");
        bench.dueFault(5, HEAD + "deed a ^k at 0 0 in 0;thing k;");
    }
}
