import java.util.ArrayList;
import java.util.Arrays;
import java.util.Collections;
import java.util.HashMap;
import java.util.HashSet;
import java.util.List;
import java.util.Map;
import java.util.Set;
import java.util.TreeMap;

/** The document in its plainest form, slow and with the whole library, to hold HalfCourt against. */
final class PlainCourt {
    static final Set<String> OWN_WORDS = new HashSet<>(Arrays.asList("scene", "by", "minutes", "wall", "at", "fog",
            "far", "thing", "deed", "in", "witness", "looks", "left", "right", "up", "down", "from", "to", "fee", "law",
            "or", "and", "not", "sees", "cells"));

    static final class Fault extends RuntimeException {
        private static final long serialVersionUID = 1L;
        final int kind;
        final int place;

        Fault(int kind, int place) {
            this.kind = kind;
            this.place = place;
        }
    }

    record Token(String text, int place, char sort) { }

    record Spot(int x, int y, int minute) { }

    record Seer(String name, int x, int y, String side, int from, int to, int fee) { }

    static final class Case {
        int across;
        int up;
        int minutes;
        List<List<Integer>> walls = new ArrayList<>();
        Map<Integer, Integer> fogs = new HashMap<>();
        List<String> things = new ArrayList<>();
        List<String> deedNames = new ArrayList<>();
        List<Map<Spot, Set<Integer>>> deeds = new ArrayList<>();
        List<Seer> seers = new ArrayList<>();
        int placed;
        Node law;
        int units;
    }

    interface Node {
        int value(int sees, int cells, int minutes, int fee);
    }

    static final class Statement {
        int who;
        Spot spot;
        int things;
        int told;
        Integer untold;

        Statement copy() {
            Statement s = new Statement();
            s.who = who;
            s.spot = spot;
            s.things = things;
            s.told = told;
            s.untold = untold;
            return s;
        }
    }

    static final class Kept {
        List<Statement> statements = new ArrayList<>();
        int time;
    }

    StringBuilder tape = new StringBuilder();
    Case now = new Case();
    List<Statement> statements = new ArrayList<>();
    int time;
    int faultKind;
    int faultPlace = -1;
    Map<Integer, Kept> boxes = new TreeMap<>();

    // ---- the text

    static final class Parser {
        final String text;
        final List<Token> tokens = new ArrayList<>();
        int at;
        final Case c = new Case();

        Parser(String text) {
            this.text = text;
            int i = 0;
            while (i < text.length()) {
                char s = text.charAt(i);
                if (s == ' ' || s == '\n') {
                    i++;
                    continue;
                }
                String rest = text.substring(i);
                String word = rest.replaceFirst("(?s)^([a-z]*).*$", "$1");
                String digits = rest.replaceFirst("(?s)^([0-9]*).*$", "$1");
                if (!word.isEmpty()) {
                    tokens.add(new Token(word, i, word.length() > 8 ? 'x' : OWN_WORDS.contains(word) ? 'k' : 'n'));
                    i += word.length();
                } else if (!digits.isEmpty()) {
                    boolean bad = digits.length() > 4 || rest.substring(digits.length()).matches("(?s)[a-z].*");
                    tokens.add(new Token(digits, i, bad ? 'x' : '0'));
                    i += digits.length();
                } else {
                    tokens.add(new Token("" + s, i, ";()<>=+-*/%".indexOf(s) >= 0 ? 's' : 'x'));
                    i++;
                }
            }
            tokens.add(new Token("", text.length(), 'e'));
        }

        Token peek() {
            return tokens.get(at);
        }

        Token fail(int kind) {
            throw new Fault(peek().sort == 'x' ? 1 : kind, peek().place);
        }

        boolean is(String s) {
            return (peek().sort == 'k' || peek().sort == 's') && peek().text.equals(s);
        }

        void need(String s) {
            if (!is(s)) {
                fail(2);
            }
            at++;
        }

        int number(int least, int most) {
            if (peek().sort != '0') {
                fail(2);
            }
            int n = Integer.parseInt(peek().text);
            if (n < least || n > most) {
                fail(4);
            }
            at++;
            return n;
        }

        String name(List<String> told) {
            if (peek().sort != 'n') {
                fail(2);
            }
            if (told.contains(peek().text)) {
                fail(3);
            }
            return tokens.get(at++).text;
        }

        void failBack(int kind) {
            at--;
            fail(kind);
        }

        Case parse() {
            if (peek().sort == 'e') {
                return c;
            }
            need("scene");
            c.across = number(1, 6);
            need("by");
            c.up = number(1, 6);
            need(";");
            if (peek().sort == 'e') {
                return c;
            }
            need("minutes");
            c.minutes = number(1, 5);
            need(";");
            while (peek().sort != 'e') {
                line();
                need(";");
            }
            return c;
        }

        void line() {
            if (is("wall") && c.walls.size() < 12) {
                at++;
                need("at");
                int x = number(0, c.across - 1);
                int y = number(0, c.up - 1);
                if (c.walls.contains(List.of(x, y))) {
                    failBack(3);
                }
                c.walls.add(List.of(x, y));
            } else if (is("fog") && c.fogs.size() < 5) {
                at++;
                int m = number(0, c.minutes - 1);
                if (c.fogs.containsKey(m)) {
                    failBack(3);
                }
                need("far");
                c.fogs.put(m, number(0, 9));
            } else if (is("thing") && c.things.size() < 4) {
                at++;
                c.things.add(name(c.things));
            } else if (is("deed") && c.deeds.size() < 8) {
                at++;
                deed();
            } else if (is("witness") && c.seers.size() < 10) {
                at++;
                seer();
            } else if (is("law") && c.law == null) {
                at++;
                c.law = e(0);
            } else {
                fail(2);
            }
        }

        void deed() {
            c.deedNames.add(name(c.deedNames));
            Map<Spot, Set<Integer>> d = new HashMap<>();
            Set<List<Integer>> told = new HashSet<>();
            while (!is(";")) {
                if (peek().sort != 'n' || c.placed == 60) {
                    fail(2);
                }
                int thing = c.things.indexOf(peek().text);
                if (thing < 0) {
                    fail(5);
                }
                at++;
                need("at");
                int x = number(0, c.across - 1);
                int y = number(0, c.up - 1);
                need("in");
                int m = number(0, c.minutes - 1);
                if (!told.add(List.of(thing, m))) {
                    failBack(3);
                }
                c.placed++;
                d.computeIfAbsent(new Spot(x, y, m), k -> new HashSet<>()).add(thing);
            }
            c.deeds.add(d);
        }

        void seer() {
            List<String> names = new ArrayList<>();
            c.seers.forEach(s -> names.add(s.name));
            String name = name(names);
            need("at");
            int x = number(0, c.across - 1);
            int y = number(0, c.up - 1);
            need("looks");
            String side = peek().text;
            if (!is("left") && !is("right") && !is("up") && !is("down")) {
                fail(2);
            }
            at++;
            need("from");
            int from = number(0, c.minutes - 1);
            need("to");
            int to = number(from, c.minutes - 1);
            need("fee");
            c.seers.add(new Seer(name, x, y, side, from, to, number(1, 99)));
        }

        Node e(int around) {
            Node left = both(around);
            while (is("or")) {
                at++;
                Node a = left;
                Node b = both(around);
                left = (s, c, m, f) -> a.value(s, c, m, f) != 0 | b.value(s, c, m, f) != 0 ? 1 : 0;
            }
            return left;
        }

        Node both(int around) {
            Node left = one(around);
            while (is("and")) {
                at++;
                Node a = left;
                Node b = one(around);
                left = (s, c, m, f) -> a.value(s, c, m, f) != 0 & b.value(s, c, m, f) != 0 ? 1 : 0;
            }
            return left;
        }

        Node one(int around) {
            if (is("not")) {
                if (around == 7) {
                    fail(2);
                }
                at++;
                Node a = one(around + 1);
                return (s, c, m, f) -> a.value(s, c, m, f) == 0 ? 1 : 0;
            }
            Node a = sum(around);
            String sign = peek().text;
            if (!is("<") && !is(">") && !is("=")) {
                return a;
            }
            at++;
            Node b = sum(around);
            return (s, c, m, f) -> {
                int way = Integer.compare(a.value(s, c, m, f), b.value(s, c, m, f));
                return sign.equals("<") && way < 0 || sign.equals(">") && way > 0 || sign.equals("=") && way == 0 ? 1 : 0;
            };
        }

        Node sum(int around) {
            Node left = term(around);
            while (is("+") || is("-")) {
                int way = is("+") ? 1 : -1;
                at++;
                Node a = left;
                Node b = term(around);
                left = (s, c, m, f) -> a.value(s, c, m, f) + way * b.value(s, c, m, f);
            }
            return left;
        }

        Node term(int around) {
            Node left = unit(around);
            while (is("*") || is("/") || is("%")) {
                String sign = peek().text;
                at++;
                Node a = left;
                Node b = unit(around);
                left = (s, c, m, f) -> {
                    long x = a.value(s, c, m, f);
                    long y = b.value(s, c, m, f);
                    return (int) (sign.equals("*") ? x * y : y == 0 ? 0 : sign.equals("/") ? x / y : x % y);
                };
            }
            return left;
        }

        Node unit(int around) {
            if (c.units == 30) {
                fail(2);
            }
            c.units++;
            Token t = peek();
            if (t.sort == '0') {
                at++;
                int n = Integer.parseInt(t.text);
                return (s, c, m, f) -> n;
            }
            if (is("(") && around < 7) {
                at++;
                Node inner = e(around + 1);
                need(")");
                return inner;
            }
            if (is("sees") || is("cells") || is("minutes") || is("fee")) {
                at++;
                return (s, c, m, f) -> t.text.equals("sees") ? s : t.text.equals("cells") ? c : t.text.equals("fee") ? f : m;
            }
            fail(2);
            return null;
        }
    }

    // ---- the face

    int feed(int a, int b, int c, int d, int e) {
        if (tape.length() + 20 > 1700) {
            return -1;
        }
        for (int n : new int[] {a, b, c, d, e}) {
            for (int i = 3; i >= 0; i--) {
                tape.append((char) (n >>> 8 * i & 255));
            }
        }
        return tape.length();
    }

    int end(int n) {
        if (n < 0 || n > tape.length()) {
            return -1;
        }
        tape.setLength(n);
        return n;
    }

    int trial() {
        try {
            now = new Parser(tape.toString()).parse();
        } catch (Fault f) {
            faultKind = f.kind;
            faultPlace = f.place;
            return -1;
        }
        faultKind = 0;
        faultPlace = -1;
        tape.setLength(0);
        statements.clear();
        boxes.clear();
        return now.seers.size();
    }

    int fault(int what) {
        return what == 0 ? faultKind : what == 1 ? faultPlace : -1;
    }

    boolean isSpot(int x, int y, int m) {
        return spots().contains(new Spot(x, y, m));
    }

    List<Spot> spots() {
        List<Spot> all = new ArrayList<>();
        for (int m = 0; m < now.minutes; m++) {
            for (int y = 0; y < now.up; y++) {
                for (int x = 0; x < now.across; x++) {
                    all.add(new Spot(x, y, m));
                }
            }
        }
        return all;
    }

    boolean isSeer(int w) {
        return w >= 0 && w < now.seers.size();
    }

    boolean isDeed(int d) {
        return d >= 0 && d < now.deeds.size();
    }

    int edgeOf(Seer s, Spot p) {
        if (p.minute < s.from || p.minute > s.to) {
            return 1;
        }
        boolean on = s.side.equals("left") && p.x < s.x || s.side.equals("right") && p.x > s.x
                || s.side.equals("up") && p.y > s.y || s.side.equals("down") && p.y < s.y;
        if (!on) {
            return 2;
        }
        int n = Math.max(Math.abs(p.x - s.x), Math.abs(p.y - s.y));
        if (now.fogs.containsKey(p.minute) && n > now.fogs.get(p.minute)) {
            return 3;
        }
        for (int i = 1; i < n; i++) {
            int x = (int) Math.floor(s.x + (double) (i * (p.x - s.x)) / n + 0.5);
            int y = (int) Math.floor(s.y + (double) (i * (p.y - s.y)) / n + 0.5);
            if (now.walls.contains(List.of(x, y))) {
                return 4;
            }
        }
        return now.walls.contains(List.of(p.x, p.y)) ? 5 : 0;
    }

    int edge(int w, int x, int y, int m) {
        return isSeer(w) && isSpot(x, y, m) ? edgeOf(now.seers.get(w), new Spot(x, y, m)) : -1;
    }

    List<Spot> seenBy(Seer s) {
        List<Spot> seen = new ArrayList<>();
        for (Spot p : spots()) {
            if (edgeOf(s, p) == 0) {
                seen.add(p);
            }
        }
        return seen;
    }

    boolean heard(Seer s) {
        int sees = seenBy(s).size();
        int cells = now.across * now.up;
        if (now.law == null) {
            return !(sees > cells * now.minutes / 2.0);
        }
        return now.law.value(sees, cells, now.minutes, s.fee) != 0;
    }

    int witness(int w, int what) {
        if (!isSeer(w)) {
            return -1;
        }
        Seer s = now.seers.get(w);
        return what == 0 ? seenBy(s).size() : what == 1 ? s.fee : what == 2 ? (heard(s) ? 1 : 0) : -1;
    }

    int thingsAt(int d, Spot p) {
        int bits = 0;
        for (int t : now.deeds.get(d).getOrDefault(p, Collections.emptySet())) {
            bits |= 1 << t;
        }
        return bits;
    }

    int scene(int d, int x, int y, int m) {
        return isDeed(d) && isSpot(x, y, m) ? thingsAt(d, new Spot(x, y, m)) : -1;
    }

    void write(int w, Spot p, int things) {
        Statement s = new Statement();
        s.who = w;
        s.spot = p;
        s.things = things;
        s.told = time;
        statements.add(s);
    }

    int state(int w, int x, int y, int m, int things) {
        if (edge(w, x, y, m) != 0 || things < 0 || things > (1 << now.things.size()) - 1) {
            return -1;
        }
        if (!heard(now.seers.get(w)) || statements.size() == 40) {
            return -1;
        }
        write(w, new Spot(x, y, m), things);
        return statements.size() - 1;
    }

    int call(int w, int d) {
        if (!isSeer(w) || !isDeed(d) || !heard(now.seers.get(w))) {
            return -1;
        }
        List<Spot> told = seenBy(now.seers.get(w));
        told.removeIf(p -> thingsAt(d, p) == 0);
        if (statements.size() + told.size() > 40) {
            return -1;
        }
        told.forEach(p -> write(w, p, thingsAt(d, p)));
        return told.size();
    }

    boolean untell(int i) {
        if (i < 0 || i >= statements.size() || statements.get(i).untold != null) {
            return false;
        }
        statements.get(i).untold = time;
        return true;
    }

    int later(int by) {
        if (by < 0 || by > 1000 || time + by > 100000) {
            return -1;
        }
        return time += by;
    }

    List<Statement> counting(int k) {
        List<Statement> all = new ArrayList<>();
        for (Statement s : statements) {
            if (s.told <= k && !(s.untold != null && s.untold <= k)) {
                all.add(s);
            }
        }
        return all;
    }

    List<Statement> untrue(int d, int k) {
        List<Statement> all = counting(k);
        all.removeIf(s -> thingsAt(d, s.spot) == s.things);
        return all;
    }

    int fits(int k) {
        int bits = 0;
        for (int d = 0; d < now.deeds.size(); d++) {
            bits |= untrue(d, k).isEmpty() ? 1 << d : 0;
        }
        return bits;
    }

    int liars(int d, int k) {
        if (!isDeed(d)) {
            return -1;
        }
        int bits = 0;
        for (Statement s : untrue(d, k)) {
            bits |= 1 << s.who;
        }
        return bits;
    }

    int firstLeast(List<Integer> all, int what) {
        if (all.isEmpty() || what < 0 || what > 1) {
            return -1;
        }
        int least = Collections.min(all);
        return what == 0 ? least : all.indexOf(least);
    }

    int fewest(int what, int k) {
        List<Integer> all = new ArrayList<>();
        for (int d = 0; d < now.deeds.size(); d++) {
            all.add(Integer.bitCount(liars(d, k)));
        }
        return firstLeast(all, what);
    }

    int struck(int what, int k) {
        List<Integer> all = new ArrayList<>();
        for (int d = 0; d < now.deeds.size(); d++) {
            all.add(untrue(d, k).size());
        }
        return firstLeast(all, what);
    }

    int sure(int x, int y, int m, boolean most, int k) {
        int fit = fits(k);
        if (fit == 0 || !isSpot(x, y, m)) {
            return -1;
        }
        int all = -1;
        int some = 0;
        for (int d = 0; d < now.deeds.size(); d++) {
            if ((fit & 1 << d) != 0) {
                all &= scene(d, x, y, m);
                some |= scene(d, x, y, m);
            }
        }
        return most ? some : all;
    }

    int twice(int k) {
        Map<List<Object>, Set<Integer>> told = new HashMap<>();
        for (Statement s : counting(k)) {
            told.computeIfAbsent(List.of(s.who, s.spot), key -> new HashSet<>()).add(s.things);
        }
        int bits = 0;
        for (Map.Entry<List<Object>, Set<Integer>> one : told.entrySet()) {
            if (one.getValue().size() > 1) {
                bits |= 1 << (Integer) one.getKey().get(0);
            }
        }
        return bits;
    }

    /** What one could SAY of a DEED. */
    Map<Spot, Integer> say(Seer s, int d) {
        Map<Spot, Integer> said = new HashMap<>();
        for (Spot p : seenBy(s)) {
            said.put(p, thingsAt(d, p));
        }
        return said;
    }

    int apart(int a, int b) {
        if (!isDeed(a) || !isDeed(b)) {
            return -1;
        }
        int count = 0;
        for (Spot p : spots()) {
            if (seenBySome(p) && thingsAt(a, p) != thingsAt(b, p)) {
                count++;
            }
        }
        return count;
    }

    boolean seenBySome(Spot p) {
        for (Seer s : now.seers) {
            if (edgeOf(s, p) == 0 && heard(s)) {
                return true;
            }
        }
        return false;
    }

    int blind(int m) {
        if (m < 0 || m >= now.minutes) {
            return -1;
        }
        int count = 0;
        for (Spot p : spots()) {
            if (p.minute == m && !now.walls.contains(List.of(p.x, p.y)) && !seenBySome(p)) {
                count++;
            }
        }
        return count;
    }

    int parted(int a, int b) {
        if (!isDeed(a) || !isDeed(b)) {
            return -1;
        }
        for (int w = 0; w < now.seers.size(); w++) {
            if (heard(now.seers.get(w)) && parts(w, a, b) == 1) {
                return 1;
            }
        }
        return 0;
    }

    int parts(int w, int a, int b) {
        if (!isSeer(w) || !isDeed(a) || !isDeed(b)) {
            return -1;
        }
        return say(now.seers.get(w), a).equals(say(now.seers.get(w), b)) ? 0 : 1;
    }

    static final String[] SIDE_WORDS = {"left", "right", "up", "down"};

    int seat(int x, int y, int side) {
        boolean there = x >= 0 && y >= 0 && x < now.across && y < now.up && !now.walls.contains(List.of(x, y));
        if (!there || side < 0 || side > 3) {
            return -1;
        }
        Seer s = new Seer("", x, y, SIDE_WORDS[side], 0, now.minutes - 1, 1);
        if (!heard(s)) {
            return 0;
        }
        int pairs = 0;
        for (int a = 0; a < now.deeds.size(); a++) {
            for (int b = a + 1; b < now.deeds.size(); b++) {
                if (!say(s, a).equals(say(s, b)) && parted(a, b) == 0) {
                    pairs++;
                }
            }
        }
        return pairs;
    }

    int bestSeat(int what) {
        int[] best = {-1, -1, -1, -1};
        for (int y = 0; y < now.up; y++) {
            for (int x = 0; x < now.across; x++) {
                for (int side = 0; side < 4; side++) {
                    int use = seat(x, y, side);
                    if (use > best[3]) {
                        best = new int[] {x, y, side, use};
                    }
                }
            }
        }
        return what < 0 || what > 3 ? -1 : best[what];
    }

    List<Integer> members(int set) {
        List<Integer> all = new ArrayList<>();
        for (int i = 0; i < 31; i++) {
            if ((set >> i & 1) == 1) {
                all.add(i);
            }
        }
        return all;
    }

    boolean isSet(int deeds) {
        if (deeds < 0) {
            return false;
        }
        for (int d : members(deeds)) {
            if (!isDeed(d)) {
                return false;
            }
        }
        return true;
    }

    int list(int deeds, int what) {
        if (!isSet(deeds) || what < 0 || what > 1) {
            return -1;
        }
        int best = -1;
        int bestFees = 0;
        int[][][] table = partsTable();
        for (int set = 0; set < 1 << now.seers.size(); set++) {
            int fees = 0;
            boolean good = true;
            for (int w : members(set)) {
                fees += now.seers.get(w).fee;
                good &= table[w] != null;
            }
            for (int a : members(deeds)) {
                for (int b : members(deeds)) {
                    boolean can = false;
                    boolean does = false;
                    for (int w = 0; w < table.length; w++) {
                        can |= table[w] != null && table[w][a][b] == 1;
                        does |= table[w] != null && table[w][a][b] == 1 && (set >> w & 1) == 1;
                    }
                    good &= does || !can;
                }
            }
            if (good && (best == -1 || fees < bestFees)) {
                best = set;
                bestFees = fees;
            }
        }
        return what == 0 ? best : bestFees;
    }

    /** By WITNESS who may be HEARD (null for who is SENT OUT), by two DEEDS. */
    int[][][] partsTable() {
        int n = now.deeds.size();
        int[][][] table = new int[now.seers.size()][][];
        for (int w = 0; w < table.length; w++) {
            if (heard(now.seers.get(w))) {
                table[w] = new int[n][n];
                for (int a = 0; a < n; a++) {
                    for (int b = 0; b < n; b++) {
                        table[w][a][b] = parts(w, a, b);
                    }
                }
            }
        }
        return table;
    }

    int[] plan(List<Integer> left, int[][][] table, boolean turn, Map<List<Integer>, int[]> known) {
        if (known.containsKey(left)) {
            return known.get(left);
        }
        int best = 0;
        int first = -1;
        for (int w = 0; w < table.length; w++) {
            if (table[w] == null) {
                continue;
            }
            List<List<Integer>> heaps = new ArrayList<>();
            for (int d : left) {
                List<Integer> mine = null;
                for (List<Integer> heap : heaps) {
                    mine = table[w][heap.get(0)][d] == 0 ? heap : mine;
                }
                if (mine == null) {
                    mine = new ArrayList<>();
                    heaps.add(mine);
                }
                mine.add(d);
            }
            if (heaps.size() < 2) {
                continue;
            }
            int greatest = 0;
            for (List<Integer> heap : heaps) {
                greatest = Math.max(greatest, plan(heap, table, turn, known)[0]);
            }
            int fees = now.seers.get(w).fee + greatest;
            if (first == -1 || fees < best && !turn) {
                best = fees;
                first = w;
            }
        }
        int[] found = {best, first};
        known.put(left, found);
        return found;
    }

    int rounds(int deeds, int what) {
        if (!isSet(deeds) || what < 0 || what > 1) {
            return -1;
        }
        return plan(members(deeds), partsTable(), false, new HashMap<>())[what];
    }

    int byTurn(int deeds) {
        return isSet(deeds) ? plan(members(deeds), partsTable(), true, new HashMap<>())[0] : -1;
    }

    int image(int box) {
        if (box < 0 || box > 2) {
            return -1;
        }
        Kept kept = new Kept();
        statements.forEach(s -> kept.statements.add(s.copy()));
        kept.time = time;
        boxes.put(box, kept);
        return statements.size();
    }

    int back(int box) {
        if (!boxes.containsKey(box)) {
            return -1;
        }
        statements.clear();
        boxes.get(box).statements.forEach(s -> statements.add(s.copy()));
        time = boxes.get(box).time;
        return statements.size();
    }

    int about(int what) {
        int[] all = {now.across, now.up, now.minutes, now.walls.size(), now.things.size(), now.deeds.size(),
            now.seers.size(), statements.size(), time, tape.length(), now.units};
        return what < 0 || what >= all.length ? -1 : all[what];
    }
}
