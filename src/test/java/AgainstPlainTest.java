import java.util.ArrayList;
import java.util.Collections;
import java.util.List;
import java.util.Random;

/** Runs of chance calls on HalfCourt and on PlainCourt side by side; the seeds are fixed, so that a run can be told again. */
public final class AgainstPlainTest {
    private static final int RUNS = 3000;
    private static final String[] SCRAPS = {"scene", "by", "minutes", "wall", "at", "fog", "far", "thing", "deed", "in",
        "witness", "looks", "left", "right", "up", "down", "from", "to", "fee", "law", "or", "and", "not", "sees", "cells",
        "a", "b", "k", "abcdefgh", "abcdefghi", "both", "e", "0", "1", "2", "5", "6", "7", "9", "10", "99", "100", "0001",
        "12345", "9999", "3x", ";", "(", ")", "<", ">", "=", "+", "-", "*", "/", "%", "@", "A", "\t", "\r", "\u00e9", "{"};

    private final Random chance;
    private final Bench bench;
    private final String run;
    private final HalfCourt real = new HalfCourt();
    private final PlainCourt plain = new PlainCourt();

    private AgainstPlainTest(int seed, Bench bench) {
        this.chance = new Random(seed);
        this.bench = bench;
        this.run = "run " + seed + ": ";
    }

    public static void main(String[] args) {
        int runs = args.length > 0 ? Integer.parseInt(args[0]) : RUNS;
        int from = args.length > 1 ? Integer.parseInt(args[1]) : 0;
        Bench bench = new Bench("AgainstPlainTest");
        for (int seed = from; seed < from + runs; seed++) {
            new AgainstPlainTest(seed, bench).go();
        }
        bench.close();
    }

    private void go() {
        int cases = 1 + chance.nextInt(3);
        for (int i = 0; i < cases; i++) {
            String text = text();
            tell(text);
            int calls = chance.nextInt(60);
            for (int c = 0; c < calls; c++) {
                anyCall();
            }
        }
    }

    private void same(String call, int got, int want) {
        bench.due(run + call, got, want);
    }

    private void tell(String text) {
        String put = text.length() > 1700 ? text.substring(0, 1700) : text;
        if (chance.nextInt(10) != 0) {
            same("end(0)", real.end(0), plain.end(0));
        }
        int before = plain.tape.length();
        for (int at = 0; at < put.length(); at += 20) {
            int[] five = new int[5];
            for (int i = 0; i < 20; i++) {
                five[i / 4] = five[i / 4] << 8 | (at + i < put.length() ? put.charAt(at + i) & 255 : 32);
            }
            same("feed", real.feed(five[0], five[1], five[2], five[3], five[4]),
                    plain.feed(five[0], five[1], five[2], five[3], five[4]));
        }
        int n = before + put.length();
        same("end(" + n + ")", real.end(n), plain.end(n));
        same("trial() of '" + put + "'", real.trial(), plain.trial());
        for (int what = -1; what < 3; what++) {
            same("fault(" + what + ") of '" + put + "'", real.fault(what), plain.fault(what));
        }
        for (int what = -1; what < 12; what++) {
            same("about(" + what + ")", real.about(what), plain.about(what));
        }
    }

    /** A number that most often can be: from 0 to below most, at times just outside, seldom far off. */
    private int pick(int most) {
        int way = chance.nextInt(40);
        if (way == 0) {
            return -1;
        }
        if (way == 1) {
            return most;
        }
        if (way == 2) {
            return chance.nextInt();
        }
        return most <= 0 ? 0 : chance.nextInt(most);
    }

    private int time() {
        return chance.nextInt(4) == 0 ? pick(plain.time + 1) : plain.time - chance.nextInt(3);
    }

    private void anyCall() {
        int w = pick(plain.now.seers.size());
        int d = pick(plain.now.deeds.size());
        int d2 = pick(plain.now.deeds.size());
        int x = pick(plain.now.across);
        int y = pick(plain.now.up);
        int m = pick(plain.now.minutes);
        int set = pick(1 << plain.now.deeds.size());
        int what = pick(2);
        int k = time();
        switch (chance.nextInt(28)) {
            case 0 -> same("edge " + w + x + y + m, real.edge(w, x, y, m), plain.edge(w, x, y, m));
            case 1 -> {
                int three = pick(3);
                same("witness " + w + " " + three, real.witness(w, three), plain.witness(w, three));
            }
            case 2 -> same("scene", real.scene(d, x, y, m), plain.scene(d, x, y, m));
            case 3, 4, 5, 6 -> {
                int t = pick(1 << plain.now.things.size());
                same("state", real.state(w, x, y, m, t), plain.state(w, x, y, m, t));
            }
            case 7, 8 -> same("call", real.call(w, d), plain.call(w, d));
            case 9 -> {
                int s = pick(plain.statements.size());
                bench.due(run + "untell " + s, real.untell(s), plain.untell(s));
            }
            case 10 -> {
                int by = chance.nextInt(3) == 0 ? pick(1001) : chance.nextInt(3);
                same("later " + by, real.later(by), plain.later(by));
            }
            case 11 -> same("fits " + k, real.fits(k), plain.fits(k));
            case 12 -> same("liars", real.liars(d, k), plain.liars(d, k));
            case 13 -> same("fewest", real.fewest(what, k), plain.fewest(what, k));
            case 14, 15 -> {
                boolean most = chance.nextBoolean();
                same("sure", real.sure(x, y, m, most, k), plain.sure(x, y, m, most, k));
            }
            case 16 -> same("twice", real.twice(k), plain.twice(k));
            case 17 -> same("struck", real.struck(what, k), plain.struck(what, k));
            case 18 -> same("apart", real.apart(d, d2), plain.apart(d, d2));
            case 19 -> same("blind", real.blind(m), plain.blind(m));
            case 20 -> {
                int side = pick(4);
                same("seat " + x + y + side, real.seat(x, y, side), plain.seat(x, y, side));
            }
            case 21 -> {
                if (chance.nextInt(10) == 0) {
                    for (int four = -1; four < 5; four++) {
                        same("bestSeat " + four, real.bestSeat(four), plain.bestSeat(four));
                    }
                }
            }
            case 22 -> same("byTurn " + set, real.byTurn(set), plain.byTurn(set));
            case 23 -> {
                same("parted", real.parted(d, d2), plain.parted(d, d2));
                same("parts", real.parts(w, d, d2), plain.parts(w, d, d2));
            }
            case 24 -> same("list " + set, real.list(set, what), plain.list(set, what));
            case 25 -> same("rounds " + set, real.rounds(set, what), plain.rounds(set, what));
            case 26 -> {
                int box = pick(3);
                same("image", real.image(box), plain.image(box));
            }
            default -> {
                int box = pick(3);
                same("back", real.back(box), plain.back(box));
                same("about 8", real.about(8), plain.about(8));
            }
        }
    }

    // ---- texts by chance

    private String text() {
        List<String> tokens = new ArrayList<>();
        int across = 1 + chance.nextInt(6);
        int up = 1 + chance.nextInt(6);
        int minutes = 1 + chance.nextInt(5);
        line(tokens, "scene", across, "by", up);
        if (chance.nextInt(30) != 0) {
            line(tokens, "minutes", minutes);
            rest(tokens, across, up, minutes);
        }
        if (chance.nextInt(3) == 0) {
            spoil(tokens);
        }
        return joined(tokens);
    }

    private void rest(List<String> tokens, int across, int up, int minutes) {
        List<List<String>> lines = new ArrayList<>();
        boolean full = chance.nextInt(12) == 0;
        int things = full ? 4 : chance.nextInt(5);
        for (int i = 0; i < things; i++) {
            line(tokens, "thing", "t" + (char) ('a' + i));
        }
        int walls = full ? chance.nextInt(14) : chance.nextInt(1 + Math.min(12, across * up / 2));
        List<Integer> cells = new ArrayList<>();
        for (int i = 0; i < across * up; i++) {
            cells.add(i);
        }
        Collections.shuffle(cells, chance);
        for (int i = 0; i < walls && i < cells.size(); i++) {
            lines.add(line("wall", "at", cells.get(i) % across, cells.get(i) / across));
        }
        for (int i = 0; i < minutes; i++) {
            if (chance.nextInt(4) == 0 || full) {
                lines.add(line("fog", i, "far", chance.nextInt(6)));
            }
        }
        int deeds = full ? 8 + chance.nextInt(2) : chance.nextInt(9);
        for (int i = 0; i < deeds; i++) {
            lines.add(deed("d" + (char) ('a' + i), things, across, up, minutes, full));
        }
        int seers = full ? 8 + chance.nextInt(4) : chance.nextInt(11);
        for (int i = 0; i < seers; i++) {
            int from = chance.nextInt(minutes);
            int to = from + chance.nextInt(minutes - from);
            lines.add(line("witness", "w" + (char) ('a' + i), "at", chance.nextInt(across), chance.nextInt(up), "looks",
                    PlainCourt.SIDE_WORDS[chance.nextInt(4)], "from", from, "to", to, "fee",
                    1 + chance.nextInt(chance.nextBoolean() ? 5 : 99)));
        }
        if (chance.nextBoolean()) {
            lines.add(law());
        }
        if (chance.nextBoolean()) {
            Collections.shuffle(lines, chance);
        }
        lines.forEach(tokens::addAll);
    }

    private List<String> deed(String name, int things, int across, int up, int minutes, boolean full) {
        List<String> tokens = new ArrayList<>(List.of("deed", name));
        // DEEDS that keep to few CELLS are TWINS more often.
        int narrow = 1 + chance.nextInt(3);
        for (int t = 0; t < things; t++) {
            for (int m = 0; m < minutes; m++) {
                if (chance.nextInt(full ? 3 : 4) != 0 && (full || m < 2)) {
                    tokens.add("t" + (char) ('a' + t));
                    tokens.add("at");
                    tokens.add("" + chance.nextInt(Math.min(narrow, across)));
                    tokens.add("" + chance.nextInt(Math.min(narrow, up)));
                    tokens.add("in");
                    tokens.add("" + m);
                }
            }
        }
        tokens.add(";");
        return tokens;
    }

    private List<String> law() {
        List<String> tokens = new ArrayList<>();
        tokens.add("law");
        either(tokens, 0, chance.nextInt(10));
        tokens.add(";");
        return tokens;
    }

    private void either(List<String> tokens, int depth, int eager) {
        int parts = 1 + chance.nextInt(2);
        for (int i = 0; i < parts; i++) {
            if (i > 0) {
                tokens.add(chance.nextBoolean() ? "or" : "and");
            }
            while (chance.nextInt(12) < eager - 4 && depth < 9) {
                tokens.add("not");
                depth++;
            }
            sum(tokens, depth, eager);
            if (chance.nextBoolean()) {
                tokens.add("<>=".charAt(chance.nextInt(3)) + "");
                sum(tokens, depth, eager);
            }
        }
    }

    private void sum(List<String> tokens, int depth, int eager) {
        int parts = 1 + chance.nextInt(3);
        for (int i = 0; i < parts; i++) {
            if (i > 0) {
                tokens.add("+-*/%".charAt(chance.nextInt(5)) + "");
            }
            int way = chance.nextInt(12 + eager);
            if (way >= 10 && depth < 9) {
                tokens.add("(");
                either(tokens, depth + 1, eager);
                tokens.add(")");
            } else if (way < 4) {
                tokens.add("" + (chance.nextInt(3) == 0 ? chance.nextInt(10000) : chance.nextInt(12)));
            } else {
                tokens.add(new String[] {"sees", "cells", "minutes", "fee"}[chance.nextInt(4)]);
            }
        }
    }

    private void spoil(List<String> tokens) {
        int times = 1 + chance.nextInt(2);
        for (int i = 0; i < times && !tokens.isEmpty(); i++) {
            int at = chance.nextInt(tokens.size());
            switch (chance.nextInt(6)) {
                case 0 -> tokens.remove(at);
                case 1 -> tokens.add(at, SCRAPS[chance.nextInt(SCRAPS.length)]);
                case 2 -> tokens.set(at, SCRAPS[chance.nextInt(SCRAPS.length)]);
                case 3 -> tokens.subList(at, tokens.size()).clear();
                case 4 -> tokens.set(at, tokens.get(chance.nextInt(tokens.size())));
                default -> {
                    int from = lineStart(tokens, at);
                    int to = from;
                    while (to < tokens.size() && !tokens.get(to).equals(";")) {
                        to++;
                    }
                    tokens.addAll(from, new ArrayList<>(tokens.subList(from, Math.min(to + 1, tokens.size()))));
                }
            }
        }
    }

    private static int lineStart(List<String> tokens, int at) {
        int from = at;
        while (from > 0 && !tokens.get(from - 1).equals(";")) {
            from--;
        }
        return from;
    }

    private static List<String> line(Object... parts) {
        List<String> tokens = new ArrayList<>();
        for (Object part : parts) {
            tokens.add("" + part);
        }
        tokens.add(";");
        return tokens;
    }

    private static void line(List<String> into, Object... parts) {
        into.addAll(line(parts));
    }

    private String joined(List<String> tokens) {
        StringBuilder text = new StringBuilder();
        boolean loose = chance.nextInt(4) == 0;
        for (String token : tokens) {
            int length = text.length();
            char last = length == 0 ? ';' : text.charAt(length - 1);
            boolean word = Character.isLetterOrDigit(token.charAt(0));
            boolean glue = last >= 'a' && last <= 'z' && Character.isDigit(token.charAt(0)) && chance.nextBoolean();
            if (Character.isLetterOrDigit(last) && word && !glue && chance.nextInt(400) != 0) {
                text.append(chance.nextInt(9) == 0 ? '\n' : ' ');
            }
            text.append(token);
            if (loose && chance.nextInt(3) == 0) {
                text.append(chance.nextBoolean() ? " " : " \n");
            }
        }
        return text.toString();
    }
}
