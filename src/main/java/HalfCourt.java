import java.util.Arrays;

/**
 * A court in which no one may have seen more than half of a thing: a CASE told in a text, what its
 * WITNESSES see and could say, what they said, and whom to call so that a DEED is known.
 */
public final class HalfCourt {
    /** There is none. */
    public static final int NONE = -1;

    private static final int MOST_BYTES = 1700;
    private static final int MOST_ACROSS = 6;
    private static final int MOST_UP = 6;
    private static final int MOST_MINUTES = 5;
    private static final int MOST_WALLS = 12;
    private static final int MOST_FOGS = 5;
    private static final int MOST_FAR = 9;
    private static final int MOST_THINGS = 4;
    private static final int MOST_DEEDS = 8;
    private static final int MOST_PLACED = 60;
    private static final int MOST_WITNESSES = 10;
    private static final int MOST_FEE = 99;
    private static final int MOST_UNITS = 30;
    private static final int MOST_WITHIN = 6;
    private static final int MOST_STATEMENTS = 40;
    private static final int MOST_LATER = 1000;
    private static final int MOST_TIME = 100_000;
    private static final int BOXES = 3;
    private static final int SIDES = 4;

    private static final int NO_TOKEN = 1;
    private static final int CANNOT_STAND = 2;
    private static final int TOLD_ALREADY = 3;
    private static final int CANNOT_BE = 4;
    private static final int NO_THING = 5;

    // A sign's kind is its own byte, so the kinds of words start above all signs.
    private static final int END = 0;
    private static final int BAD = 1;
    private static final int NUMBER = 2;
    private static final int NAME = 3;
    private static final String WORDS =
            "scene by minutes wall at fog far thing deed in witness looks left right up down from to fee law or and not sees cells";
    private static final int WORD_COUNT = 25;
    private static final int SCENE = 128;
    private static final int BY = 129;
    private static final int MINUTES = 130;
    private static final int WALL = 131;
    private static final int AT = 132;
    private static final int FOG = 133;
    private static final int FAR = 134;
    private static final int THING = 135;
    private static final int DEED = 136;
    private static final int IN = 137;
    private static final int WITNESS = 138;
    private static final int LOOKS = 139;
    private static final int LEFT = 140;
    private static final int DOWN = 143;
    private static final int FROM = 144;
    private static final int TO = 145;
    private static final int FEE = 146;
    private static final int LAW = 147;
    private static final int OR = 148;
    private static final int AND = 149;
    private static final int NOT = 150;
    private static final int SEES = 151;
    private static final int CELLS = 152;

    private final byte[] tape = new byte[MOST_BYTES];
    private int bytes = 0;
    private CaseFile open = new CaseFile();
    private CaseFile spare = new CaseFile();
    private final CaseReader reader = new CaseReader(spare);
    private final Hearing hearing = new Hearing(open);
    private final Plans plans = new Plans(hearing);
    private final Protocol protocol = new Protocol();
    private final Protocol[] boxes = new Protocol[BOXES];

    public HalfCourt() {
        for (int box = 0; box < BOXES; box++) {
            boxes[box] = new Protocol();
        }
    }

    public int feed(int a, int b, int c, int d, int e) {
        if (bytes > MOST_BYTES - 20) {
            return NONE;
        }
        putBytes(a);
        putBytes(b);
        putBytes(c);
        putBytes(d);
        putBytes(e);
        return bytes;
    }

    public int end(int n) {
        if (n < 0 || n > bytes) {
            return NONE;
        }
        bytes = n;
        return n;
    }

    public int trial() {
        spare.clear();
        if (!reader.read(tape, bytes, spare)) {
            return NONE;
        }
        CaseFile before = open;
        open = spare;
        spare = before;
        bytes = 0;
        protocol.count = 0;
        for (int box = 0; box < BOXES; box++) {
            boxes[box].kept = false;
        }
        hearing.hold(open);
        plans.forget();
        return open.witnesses.count;
    }

    public int fault(int what) {
        switch (what) {
            case 0:
                return reader.found;
            case 1:
                return reader.place;
            default:
                return NONE;
        }
    }

    public int edge(int witness, int x, int y, int minute) {
        if (!open.hasWitness(witness) || !open.hasSpot(x, y, minute)) {
            return NONE;
        }
        return open.hindrance(open.looks[witness], x, y, minute);
    }

    public int witness(int witness, int what) {
        if (!open.hasWitness(witness)) {
            return NONE;
        }
        switch (what) {
            case 0:
                return hearing.sees[witness];
            case 1:
                return open.looks[witness].fee;
            case 2:
                return hearing.isHeard(witness) ? 1 : 0;
            default:
                return NONE;
        }
    }

    public int scene(int deed, int x, int y, int minute) {
        if (!open.hasDeed(deed) || !open.hasSpot(x, y, minute)) {
            return NONE;
        }
        return open.thingsAt(deed, cellOf(x, y), minute);
    }

    public int state(int witness, int x, int y, int minute, int things) {
        if (!open.hasWitness(witness) || !open.hasSpot(x, y, minute)) {
            return NONE;
        }
        if (things < 0 || things >= 1 << open.things.count) {
            return NONE;
        }
        int cell = cellOf(x, y);
        if (!hearing.isHeard(witness) || !hearing.sawCell(witness, cell, minute)) {
            return NONE;
        }
        return protocol.write(witness, cell, minute, things);
    }

    public int call(int witness, int deed) {
        if (!open.hasWitness(witness) || !open.hasDeed(deed) || !hearing.isHeard(witness)) {
            return NONE;
        }
        int said = telling(witness, deed, false);
        if (protocol.count + said > MOST_STATEMENTS) {
            return NONE;
        }
        return telling(witness, deed, true);
    }

    public boolean untell(int statement) {
        if (statement < 0 || statement >= protocol.count || protocol.untold[statement] != NONE) {
            return false;
        }
        protocol.untold[statement] = protocol.time;
        return true;
    }

    public int later(int by) {
        if (by < 0 || by > MOST_LATER || protocol.time + by > MOST_TIME) {
            return NONE;
        }
        protocol.time += by;
        return protocol.time;
    }

    public int fits(int k) {
        int fitting = 0;
        for (int deed = 0; deed < open.deeds.count; deed++) {
            if (countUntrue(deed, k) == 0) {
                fitting |= 1 << deed;
            }
        }
        return fitting;
    }

    public int liars(int deed, int k) {
        return open.hasDeed(deed) ? liarBits(deed, k) : NONE;
    }

    public int fewest(int what, int k) {
        int least = NONE;
        int first = NONE;
        for (int deed = 0; deed < open.deeds.count; deed++) {
            int lying = Integer.bitCount(liarBits(deed, k));
            if (first == NONE || lying < least) {
                least = lying;
                first = deed;
            }
        }
        return eitherOf(what, least, first);
    }

    public int sure(int x, int y, int minute, boolean most, int k) {
        if (!open.hasSpot(x, y, minute)) {
            return NONE;
        }
        int fitting = fits(k);
        if (fitting == 0) {
            return NONE;
        }
        int byAll = (1 << open.things.count) - 1;
        int bySome = 0;
        for (int deed = 0; deed < open.deeds.count; deed++) {
            if ((fitting >> deed & 1) == 1) {
                int there = open.thingsAt(deed, cellOf(x, y), minute);
                byAll &= there;
                bySome |= there;
            }
        }
        return most ? bySome : byAll;
    }

    public int twice(int k) {
        int unsteady = 0;
        for (int i = 0; i < protocol.count; i++) {
            for (int j = 0; j < i; j++) {
                if (protocol.counts(i, k) && protocol.counts(j, k) && protocol.clash(i, j)) {
                    unsteady |= 1 << protocol.who[i];
                }
            }
        }
        return unsteady;
    }

    public int struck(int what, int k) {
        int least = NONE;
        int first = NONE;
        for (int deed = 0; deed < open.deeds.count; deed++) {
            int untrue = countUntrue(deed, k);
            if (first == NONE || untrue < least) {
                least = untrue;
                first = deed;
            }
        }
        return eitherOf(what, least, first);
    }

    public int apart(int a, int b) {
        return open.hasDeed(a) && open.hasDeed(b) ? hearing.countUnlike(a, b) : NONE;
    }

    public int blind(int minute) {
        return open.hasMinute(minute) ? hearing.countBlind(minute) : NONE;
    }

    public int seat(int x, int y, int side) {
        if (!open.hasCell(x, y) || open.hasWall(x, y) || side < 0 || side >= SIDES) {
            return NONE;
        }
        return hearing.useOf(x, y, side);
    }

    public int bestSeat(int what) {
        if (!hearing.findBest()) {
            return NONE;
        }
        switch (what) {
            case 0:
                return hearing.bestX;
            case 1:
                return hearing.bestY;
            case 2:
                return hearing.bestSide;
            case 3:
                return hearing.bestUse;
            default:
                return NONE;
        }
    }

    public int byTurn(int deeds) {
        return open.hasDeeds(deeds) ? plans.feesByTurn(deeds) : NONE;
    }

    public int parted(int a, int b) {
        if (!open.hasDeed(a) || !open.hasDeed(b)) {
            return NONE;
        }
        return (hearing.parted & pairBit(a, b)) != 0 ? 1 : 0;
    }

    public int parts(int witness, int a, int b) {
        if (!open.hasWitness(witness) || !open.hasDeed(a) || !open.hasDeed(b)) {
            return NONE;
        }
        return (hearing.partedBy[witness] & pairBit(a, b)) != 0 ? 1 : 0;
    }

    public int list(int deeds, int what) {
        if (!open.hasDeeds(deeds)) {
            return NONE;
        }
        int chosen = plans.cheapest(deeds);
        return eitherOf(what, chosen, plans.feesOf(chosen));
    }

    public int rounds(int deeds, int what) {
        if (!open.hasDeeds(deeds)) {
            return NONE;
        }
        return eitherOf(what, plans.feesByRounds(deeds), plans.firstCalled(deeds));
    }

    public int image(int box) {
        if (box < 0 || box >= BOXES) {
            return NONE;
        }
        boxes[box].copy(protocol);
        boxes[box].kept = true;
        return protocol.count;
    }

    public int back(int box) {
        if (box < 0 || box >= BOXES || !boxes[box].kept) {
            return NONE;
        }
        protocol.copy(boxes[box]);
        return protocol.count;
    }

    public int about(int what) {
        switch (what) {
            case 0:
                return open.across;
            case 1:
                return open.up;
            case 2:
                return open.minutes;
            case 3:
                return open.wallCount;
            case 4:
                return open.things.count;
            case 5:
                return open.deeds.count;
            case 6:
                return open.witnesses.count;
            case 7:
                return protocol.count;
            case 8:
                return protocol.time;
            case 9:
                return bytes;
            case 10:
                return open.law.units;
            default:
                return NONE;
        }
    }

    private void putBytes(int number) {
        for (int shift = 24; shift >= 0 && bytes < MOST_BYTES; shift -= 8) {
            tape[bytes] = (byte) (number >> shift);
            bytes++;
        }
    }

    /** How many STATEMENTS a WITNESS who is CALLED by a DEED makes; they are written only if wanted. */
    private int telling(int witness, int deed, boolean written) {
        int said = 0;
        for (int minute = 0; minute < open.minutes; minute++) {
            for (int cell = 0; cell < MOST_ACROSS * MOST_UP; cell++) {
                int there = open.thingsAt(deed, cell, minute);
                if (there != 0 && hearing.sawCell(witness, cell, minute)) {
                    said++;
                    if (written) {
                        protocol.write(witness, cell, minute, there);
                    }
                }
            }
        }
        return said;
    }

    private boolean isUntrue(int statement, int deed) {
        int there = open.thingsAt(deed, protocol.cell[statement], protocol.minute[statement]);
        return there != protocol.things[statement];
    }

    private int countUntrue(int deed, int k) {
        int untrue = 0;
        for (int i = 0; i < protocol.count; i++) {
            if (protocol.counts(i, k) && isUntrue(i, deed)) {
                untrue++;
            }
        }
        return untrue;
    }

    private int liarBits(int deed, int k) {
        int lying = 0;
        for (int i = 0; i < protocol.count; i++) {
            if (protocol.counts(i, k) && isUntrue(i, deed)) {
                lying |= 1 << protocol.who[i];
            }
        }
        return lying;
    }

    private static int eitherOf(int what, int first, int second) {
        switch (what) {
            case 0:
                return first;
            case 1:
                return second;
            default:
                return NONE;
        }
    }

    // CELLS are numbered by y, then x, in rows of the greatest width, so that a number means the same in each scene.
    private static int cellOf(int x, int y) {
        return y * MOST_ACROSS + x;
    }

    // A set of pairs of DEEDS is a long: each pair stands in it both ways round.
    private static long pairBit(int a, int b) {
        return 1L << a * MOST_DEEDS + b;
    }

    private static long pairsOf(int deeds) {
        long pairs = 0;
        for (int deed = 0; deed < MOST_DEEDS; deed++) {
            if ((deeds >> deed & 1) == 1) {
                pairs |= (long) deeds << deed * MOST_DEEDS;
            }
        }
        return pairs;
    }

    /** The TOKENS of a text, one at a time. */
    private static final class Tokens {
        private static final int MOST_LETTERS = 8;
        private static final int MOST_DIGITS = 4;
        private static final int BYTE_COUNT = 256;
        private static final int BLANK = 1;
        private static final int LETTER = 2;
        private static final int DIGIT = 3;
        private static final int SIGN = 4;

        private final int[] sorts = new int[BYTE_COUNT];
        private final long[] words = new long[WORD_COUNT];
        private byte[] text = new byte[0];
        private int length = 0;
        private int next = 0;
        int kind = END;
        int start = 0;
        int number = 0;
        long word = 0;

        Tokens() {
            sortBytes(" \n", BLANK);
            sortBytes("abcdefghijklmnopqrstuvwxyz", LETTER);
            sortBytes("0123456789", DIGIT);
            sortBytes(";()<>=+-*/%", SIGN);
            int at = 0;
            for (int i = 0; i < WORDS.length(); i++) {
                char sign = WORDS.charAt(i);
                if (sign == ' ') {
                    at++;
                } else if (at < WORD_COUNT) {
                    words[at] = words[at] << 8 | sign;
                }
            }
        }

        private void sortBytes(String signs, int sort) {
            for (int i = 0; i < signs.length(); i++) {
                sorts[signs.charAt(i) & 255] = sort;
            }
        }

        void begin(byte[] bytes, int count) {
            text = bytes;
            length = Math.min(count, bytes.length);
            next = 0;
            advance();
        }

        void advance() {
            pass(BLANK);
            start = next;
            if (next >= length) {
                kind = END;
                return;
            }
            switch (sorts[text[next] & 255]) {
                case LETTER:
                    pass(LETTER);
                    takeWord();
                    break;
                case DIGIT:
                    pass(DIGIT);
                    takeNumber();
                    break;
                case SIGN:
                    kind = text[next];
                    next++;
                    break;
                default:
                    kind = BAD;
            }
        }

        /** Goes behind all bytes of a sort that stand next. */
        private void pass(int sort) {
            for (int i = next; i < length && sorts[text[i] & 255] == sort; i++) {
                next = i + 1;
            }
        }

        private void takeWord() {
            if (next - start > MOST_LETTERS) {
                kind = BAD;
                return;
            }
            word = 0;
            for (int i = start; i < next; i++) {
                word = word << 8 | text[i];
            }
            kind = NAME;
            for (int i = 0; i < WORD_COUNT && kind == NAME; i++) {
                if (words[i] == word) {
                    kind = SCENE + i;
                }
            }
        }

        private void takeNumber() {
            boolean letterBehind = next < length && sorts[text[next] & 255] == LETTER;
            if (next - start > MOST_DIGITS || letterBehind) {
                kind = BAD;
                return;
            }
            number = 0;
            for (int i = start; i < next; i++) {
                number = number * 10 + text[i] - '0';
            }
            kind = NUMBER;
        }
    }

    /** Reads a text into a CASE, up to its first FAULT. */
    private static final class CaseReader {
        private final Tokens tokens = new Tokens();
        private CaseFile file;
        private Look look = new Look();
        int found = 0;
        int place = NONE;

        CaseReader(CaseFile first) {
            file = first;
        }

        boolean read(byte[] text, int length, CaseFile into) {
            file = into;
            found = 0;
            place = NONE;
            tokens.begin(text, length);
            for (int lines = 0; lines <= MOST_BYTES && tokens.kind != END; lines++) {
                if (!lineMayStand()) {
                    return refuse(CANNOT_STAND);
                }
                if (!readLine() || !take(';')) {
                    return false;
                }
            }
            return true;
        }

        private boolean readLine() {
            int first = tokens.kind;
            tokens.advance();
            switch (first) {
                case SCENE:
                    return readScene();
                case MINUTES:
                    return readMinutes();
                case WALL:
                    return readWall();
                case FOG:
                    return readFog();
                case THING:
                    return readName(file.things);
                case DEED:
                    return readDeed();
                case WITNESS:
                    return readPlace() && readTimes();
                default:
                    return readEither(0);
            }
        }

        /** Whether a line may begin with the TOKEN at hand, by what was told before. */
        private boolean lineMayStand() {
            if (tokens.kind == SCENE) {
                return file.across == 0;
            }
            if (tokens.kind == MINUTES) {
                return file.across > 0 && file.minutes == 0;
            }
            if (file.minutes == 0) {
                return false;
            }
            switch (tokens.kind) {
                case WALL:
                    return file.wallCount < MOST_WALLS;
                case FOG:
                    return file.fogCount < MOST_FOGS;
                case THING:
                    return !file.things.isFull();
                case DEED:
                    return !file.deeds.isFull();
                case WITNESS:
                    return !file.witnesses.isFull();
                case LAW:
                    return file.law.units == 0;
                default:
                    return false;
            }
        }

        private boolean readScene() {
            if (!numberStands(1, MOST_ACROSS)) {
                return false;
            }
            file.across = takenNumber();
            if (!take(BY) || !numberStands(1, MOST_UP)) {
                return false;
            }
            file.up = takenNumber();
            return true;
        }

        private boolean readMinutes() {
            if (!numberStands(1, MOST_MINUTES)) {
                return false;
            }
            file.minutes = takenNumber();
            return true;
        }

        private boolean readWall() {
            if (!take(AT) || !numberStands(0, file.across - 1)) {
                return false;
            }
            int x = takenNumber();
            if (!numberStands(0, file.up - 1)) {
                return false;
            }
            if (file.hasWall(x, tokens.number)) {
                return refuse(TOLD_ALREADY);
            }
            file.build(x, takenNumber());
            return true;
        }

        private boolean readFog() {
            if (!numberStands(0, file.minutes - 1)) {
                return false;
            }
            if (file.far[tokens.number] != NONE) {
                return refuse(TOLD_ALREADY);
            }
            int minute = takenNumber();
            if (!take(FAR) || !numberStands(0, MOST_FAR)) {
                return false;
            }
            file.far[minute] = takenNumber();
            file.fogCount++;
            return true;
        }

        private boolean readName(Names names) {
            if (tokens.kind != NAME) {
                return refuse(CANNOT_STAND);
            }
            if (names.find(tokens.word) != NONE) {
                return refuse(TOLD_ALREADY);
            }
            names.add(tokens.word);
            tokens.advance();
            return true;
        }

        private boolean readDeed() {
            int deed = file.deeds.count;
            if (!readName(file.deeds)) {
                return false;
            }
            for (int placed = 0; placed <= MOST_PLACED && tokens.kind == NAME; placed++) {
                if (!readPlaced(deed)) {
                    return false;
                }
            }
            return true;
        }

        private boolean readPlaced(int deed) {
            if (file.placed >= MOST_PLACED) {
                return refuse(CANNOT_STAND);
            }
            int thing = file.things.find(tokens.word);
            if (thing == NONE) {
                return refuse(NO_THING);
            }
            tokens.advance();
            if (!take(AT) || !numberStands(0, file.across - 1)) {
                return false;
            }
            int x = takenNumber();
            if (!numberStands(0, file.up - 1)) {
                return false;
            }
            int y = takenNumber();
            if (!take(IN) || !numberStands(0, file.minutes - 1)) {
                return false;
            }
            int spot = CaseFile.whereIndex(deed, thing, tokens.number);
            if (file.where[spot] != NONE) {
                return refuse(TOLD_ALREADY);
            }
            file.where[spot] = cellOf(x, y);
            file.placed++;
            tokens.advance();
            return true;
        }

        /** Who a WITNESS is, where he is and to which side he looks. */
        private boolean readPlace() {
            look = file.looks[file.witnesses.count];
            if (!readName(file.witnesses) || !take(AT) || !numberStands(0, file.across - 1)) {
                return false;
            }
            look.x = takenNumber();
            if (!numberStands(0, file.up - 1)) {
                return false;
            }
            look.y = takenNumber();
            if (!take(LOOKS)) {
                return false;
            }
            if (tokens.kind < LEFT || tokens.kind > DOWN) {
                return refuse(CANNOT_STAND);
            }
            look.side = tokens.kind - LEFT;
            tokens.advance();
            return true;
        }

        private boolean readTimes() {
            if (!take(FROM) || !numberStands(0, file.minutes - 1)) {
                return false;
            }
            look.from = takenNumber();
            if (!take(TO) || !numberStands(look.from, file.minutes - 1)) {
                return false;
            }
            look.to = takenNumber();
            if (!take(FEE) || !numberStands(1, MOST_FEE)) {
                return false;
            }
            look.fee = takenNumber();
            return true;
        }

        /** Here and below, within is how many units ( e ) and ones behind not stand around what is read. */
        private boolean readEither(int within) {
            if (!readBoth(within)) {
                return false;
            }
            for (int i = 0; i <= MOST_BYTES && tokens.kind == OR; i++) {
                tokens.advance();
                if (!readBoth(within)) {
                    return false;
                }
                file.law.addStep(OR);
            }
            return true;
        }

        private boolean readBoth(int within) {
            if (!readOne(within)) {
                return false;
            }
            for (int i = 0; i <= MOST_BYTES && tokens.kind == AND; i++) {
                tokens.advance();
                if (!readOne(within)) {
                    return false;
                }
                file.law.addStep(AND);
            }
            return true;
        }

        private boolean readOne(int within) {
            if (tokens.kind == NOT) {
                if (within > MOST_WITHIN) {
                    return refuse(CANNOT_STAND);
                }
                tokens.advance();
                if (!readOne(within + 1)) {
                    return false;
                }
                file.law.addStep(NOT);
                return true;
            }
            if (!readSum(within)) {
                return false;
            }
            int relation = tokens.kind;
            if (relation != '<' && relation != '>' && relation != '=') {
                return true;
            }
            tokens.advance();
            if (!readSum(within)) {
                return false;
            }
            file.law.addStep(relation);
            return true;
        }

        private boolean readSum(int within) {
            if (!readTerm(within)) {
                return false;
            }
            for (int i = 0; i <= MOST_BYTES && (tokens.kind == '+' || tokens.kind == '-'); i++) {
                int sign = tokens.kind;
                tokens.advance();
                if (!readTerm(within)) {
                    return false;
                }
                file.law.addStep(sign);
            }
            return true;
        }

        private boolean readTerm(int within) {
            if (!readUnit(within)) {
                return false;
            }
            for (int i = 0; i <= MOST_BYTES && isTermSign(tokens.kind); i++) {
                int sign = tokens.kind;
                tokens.advance();
                if (!readUnit(within)) {
                    return false;
                }
                file.law.addStep(sign);
            }
            return true;
        }

        private static boolean isTermSign(int kind) {
            return kind == '*' || kind == '/' || kind == '%';
        }

        private boolean readUnit(int within) {
            if (file.law.units >= MOST_UNITS) {
                return refuse(CANNOT_STAND);
            }
            switch (tokens.kind) {
                case NUMBER:
                    file.law.addNumber(tokens.number);
                    break;
                case SEES:
                case CELLS:
                case MINUTES:
                case FEE:
                    file.law.addStep(tokens.kind);
                    break;
                case '(':
                    return readWithin(within);
                default:
                    return refuse(CANNOT_STAND);
            }
            file.law.units++;
            tokens.advance();
            return true;
        }

        private boolean readWithin(int within) {
            if (within > MOST_WITHIN) {
                return refuse(CANNOT_STAND);
            }
            file.law.units++;
            tokens.advance();
            return readEither(within + 1) && take(')');
        }

        private boolean take(int kind) {
            if (tokens.kind != kind) {
                return refuse(CANNOT_STAND);
            }
            tokens.advance();
            return true;
        }

        private boolean numberStands(int least, int most) {
            if (tokens.kind != NUMBER) {
                return refuse(CANNOT_STAND);
            }
            if (tokens.number < least || tokens.number > most) {
                return refuse(CANNOT_BE);
            }
            return true;
        }

        private int takenNumber() {
            int number = tokens.number;
            tokens.advance();
            return number;
        }

        private boolean refuse(int why) {
            found = tokens.kind == BAD ? NO_TOKEN : why;
            place = tokens.start;
            return false;
        }
    }

    /** The NAMES of one sort; a NAME is held as its letters' bytes in one long. */
    private static final class Names {
        private final long[] words;
        int count = 0;

        Names(int most) {
            words = new long[Math.max(most, 0)];
        }

        boolean isFull() {
            return count >= words.length;
        }

        void add(long word) {
            if (!isFull()) {
                words[count] = word;
                count++;
            }
        }

        int find(long word) {
            for (int i = 0; i < count; i++) {
                if (words[i] == word) {
                    return i;
                }
            }
            return NONE;
        }
    }

    /** One who looks from a CELL to a side for some MINUTES, for a fee. */
    private static final class Look {
        int x = 0;
        int y = 0;
        int side = 0;
        int from = 0;
        int to = 0;
        int fee = 0;

        boolean faces(int cellX, int cellY) {
            switch (side) {
                case 0:
                    return cellX < x;
                case 1:
                    return cellX > x;
                case 2:
                    return cellY > y;
                default:
                    return cellY < y;
            }
        }
    }

    /** The law's formula as steps over a stack: a number of the text is itself, all else is its kind below 0. */
    private static final class Law {
        // Each unit can stand behind 7 nots at most and adds one more step that joins it to another.
        private static final int MOST_STEPS = 9 * MOST_UNITS;

        private final int[] steps = new int[MOST_STEPS];
        private final int[] stack = new int[MOST_UNITS];
        private int length = 0;
        int units = 0;

        void clear() {
            length = 0;
            units = 0;
        }

        void addNumber(int number) {
            if (length < MOST_STEPS) {
                steps[length] = number;
                length++;
            }
        }

        void addStep(int kind) {
            addNumber(-kind);
        }

        int value(int sees, int cells, int minutes, int fee) {
            int top = 0;
            for (int i = 0; i < length; i++) {
                int kind = -steps[i];
                if (kind == NOT && top > 0) {
                    stack[top - 1] = bit(stack[top - 1] == 0);
                } else if (isJoint(kind) && top > 1) {
                    top--;
                    stack[top - 1] = joined(kind, stack[top - 1], stack[top]);
                } else if (top < MOST_UNITS) {
                    stack[top] = unitValue(kind, sees, cells, minutes, fee);
                    top++;
                }
            }
            return stack[0];
        }

        private static boolean isJoint(int kind) {
            return kind == OR || kind == AND || kind > 0 && kind < SCENE;
        }

        private static int unitValue(int kind, int sees, int cells, int minutes, int fee) {
            switch (kind) {
                case SEES:
                    return sees;
                case CELLS:
                    return cells;
                case MINUTES:
                    return minutes;
                case FEE:
                    return fee;
                default:
                    return -kind;
            }
        }

        private static int joined(int kind, int left, int right) {
            switch (kind) {
                case OR:
                    return bit(left != 0 || right != 0);
                case AND:
                    return bit(left != 0 && right != 0);
                case '<':
                    return bit(left < right);
                case '>':
                    return bit(left > right);
                case '=':
                    return bit(left == right);
                case '+':
                    return left + right;
                case '-':
                    return left - right;
                case '*':
                    return left * right;
                case '/':
                    return right == 0 ? 0 : left / right;
                default:
                    return right == 0 ? 0 : left % right;
            }
        }

        private static int bit(boolean holds) {
            return holds ? 1 : 0;
        }
    }

    /** A CASE as it was told. */
    private static final class CaseFile {
        int across = 0;
        int up = 0;
        int minutes = 0;
        int wallCount = 0;
        int fogCount = 0;
        int placed = 0;
        private long walls = 0;
        final int[] far = new int[MOST_MINUTES];
        final Names things = new Names(MOST_THINGS);
        final Names deeds = new Names(MOST_DEEDS);
        final Names witnesses = new Names(MOST_WITNESSES);
        final int[] where = new int[MOST_DEEDS * MOST_THINGS * MOST_MINUTES];
        final Look[] looks = new Look[MOST_WITNESSES];
        final Law law = new Law();

        CaseFile() {
            for (int i = 0; i < MOST_WITNESSES; i++) {
                looks[i] = new Look();
            }
            clear();
        }

        void clear() {
            across = 0;
            up = 0;
            minutes = 0;
            wallCount = 0;
            fogCount = 0;
            placed = 0;
            walls = 0;
            things.count = 0;
            deeds.count = 0;
            witnesses.count = 0;
            law.clear();
            Arrays.fill(far, NONE);
            Arrays.fill(where, NONE);
        }

        static int whereIndex(int deed, int thing, int minute) {
            return (deed * MOST_THINGS + thing) * MOST_MINUTES + minute;
        }

        boolean hasWitness(int witness) {
            return witness >= 0 && witness < witnesses.count;
        }

        boolean hasDeed(int deed) {
            return deed >= 0 && deed < deeds.count;
        }

        boolean hasDeeds(int set) {
            return set >= 0 && set < 1 << deeds.count;
        }

        boolean hasCell(int x, int y) {
            return x >= 0 && x < across && y >= 0 && y < up;
        }

        boolean hasMinute(int minute) {
            return minute >= 0 && minute < minutes;
        }

        boolean hasSpot(int x, int y, int minute) {
            return hasCell(x, y) && hasMinute(minute);
        }

        boolean hasWall(int x, int y) {
            return (walls >> cellOf(x, y) & 1) == 1;
        }

        void build(int x, int y) {
            walls |= 1L << cellOf(x, y);
            wallCount++;
        }

        int thingsAt(int deed, int cell, int minute) {
            int there = 0;
            for (int thing = 0; thing < things.count; thing++) {
                if (where[whereIndex(deed, thing, minute)] == cell) {
                    there |= 1 << thing;
                }
            }
            return there;
        }

        /** The CELLS in which unlike THINGS are by two DEEDS: where a THING is by one of them alone. */
        long unlikeCells(int a, int b, int minute) {
            long cells = 0;
            for (int thing = 0; thing < things.count; thing++) {
                int byA = where[whereIndex(a, thing, minute)];
                int byB = where[whereIndex(b, thing, minute)];
                if (byA != byB) {
                    cells |= byA == NONE ? 0 : 1L << byA;
                    cells |= byB == NONE ? 0 : 1L << byB;
                }
            }
            return cells;
        }

        /** The first EDGE by which one does not see a CELL in a MINUTE; 0 if he SEES it. */
        int hindrance(Look look, int x, int y, int minute) {
            if (minute < look.from || minute > look.to) {
                return 1;
            }
            if (!look.faces(x, y)) {
                return 2;
            }
            int away = Math.max(Math.abs(x - look.x), Math.abs(y - look.y));
            if (far[minute] != NONE && away > far[minute]) {
                return 3;
            }
            if (hasWallBetween(look, x, y, away)) {
                return 4;
            }
            return hasWall(x, y) ? 5 : 0;
        }

        private boolean hasWallBetween(Look look, int x, int y, int away) {
            for (int i = 1; i < away; i++) {
                // Nothing is below 0 here, so that / rounds down: half of the divisor on top rounds halves up.
                int wayX = (2 * (look.x * (away - i) + x * i) + away) / (2 * away);
                int wayY = (2 * (look.y * (away - i) + y * i) + away) / (2 * away);
                if (hasWall(wayX, wayY)) {
                    return true;
                }
            }
            return false;
        }

        boolean mayHear(int sees, int fee) {
            int cells = across * up;
            if (law.units == 0) {
                return 2 * sees <= cells * minutes;
            }
            return law.value(sees, cells, minutes, fee) != 0;
        }
    }

    /** What follows from a CASE: what each WITNESS SEES, who may be HEARD, which DEEDS they part. */
    private static final class Hearing {
        // One who sits on a SEAT gets a row of his own behind the WITNESSES.
        private static final int GUEST = MOST_WITNESSES;

        CaseFile file;
        private final long[] sight = new long[(MOST_WITNESSES + 1) * MOST_MINUTES];
        private final long[] seen = new long[MOST_MINUTES];
        private final long[] unlike = new long[MOST_DEEDS * MOST_DEEDS * MOST_MINUTES];
        private final Look guest = new Look();
        private int heard = 0;
        private boolean bestKnown = false;
        final int[] sees = new int[MOST_WITNESSES];
        final long[] partedBy = new long[MOST_WITNESSES];
        long parted = 0;
        int bestX = 0;
        int bestY = 0;
        int bestSide = 0;
        int bestUse = NONE;

        /** Begins with a CASE that is empty, of which nothing follows. */
        Hearing(CaseFile empty) {
            file = empty;
        }

        void hold(CaseFile held) {
            file = held;
            heard = 0;
            parted = 0;
            bestKnown = false;
            Arrays.fill(seen, 0);
            compareDeeds();
            for (int witness = 0; witness < file.witnesses.count; witness++) {
                sees[witness] = lookAround(witness, file.looks[witness]);
                partedBy[witness] = pairsPartedBy(witness);
                if (file.mayHear(sees[witness], file.looks[witness].fee)) {
                    hear(witness);
                }
            }
        }

        private void compareDeeds() {
            for (int a = 0; a < file.deeds.count; a++) {
                for (int b = 0; b < file.deeds.count; b++) {
                    for (int minute = 0; minute < file.minutes; minute++) {
                        unlike[unlikeIndex(a, b, minute)] = file.unlikeCells(a, b, minute);
                    }
                }
            }
        }

        private static int unlikeIndex(int a, int b, int minute) {
            return (a * MOST_DEEDS + b) * MOST_MINUTES + minute;
        }

        /** Fills a row of sight: how many (CELL, MINUTE) are seen. */
        private int lookAround(int row, Look look) {
            int count = 0;
            for (int minute = 0; minute < file.minutes; minute++) {
                long cells = 0;
                for (int y = 0; y < file.up; y++) {
                    for (int x = 0; x < file.across; x++) {
                        if (file.hindrance(look, x, y, minute) == 0) {
                            cells |= 1L << cellOf(x, y);
                        }
                    }
                }
                sight[row * MOST_MINUTES + minute] = cells;
                count += Long.bitCount(cells);
            }
            return count;
        }

        private long pairsPartedBy(int row) {
            long pairs = 0;
            for (int a = 0; a < file.deeds.count; a++) {
                for (int b = 0; b < a; b++) {
                    if (saysUnlike(row, a, b)) {
                        pairs |= pairBit(a, b) | pairBit(b, a);
                    }
                }
            }
            return pairs;
        }

        private boolean saysUnlike(int row, int a, int b) {
            for (int minute = 0; minute < file.minutes; minute++) {
                if ((sight[row * MOST_MINUTES + minute] & unlike[unlikeIndex(a, b, minute)]) != 0) {
                    return true;
                }
            }
            return false;
        }

        private void hear(int witness) {
            heard |= 1 << witness;
            parted |= partedBy[witness];
            for (int minute = 0; minute < file.minutes; minute++) {
                seen[minute] |= sight[witness * MOST_MINUTES + minute];
            }
        }

        boolean isHeard(int witness) {
            return (heard >> witness & 1) == 1;
        }

        boolean sawCell(int witness, int cell, int minute) {
            return (sight[witness * MOST_MINUTES + minute] >> cell & 1) == 1;
        }

        int countUnlike(int a, int b) {
            int count = 0;
            for (int minute = 0; minute < file.minutes; minute++) {
                count += Long.bitCount(seen[minute] & unlike[unlikeIndex(a, b, minute)]);
            }
            return count;
        }

        int countBlind(int minute) {
            // Nobody SEES a wall, so that the seen CELLS and the walls have none in common.
            return file.across * file.up - file.wallCount - Long.bitCount(seen[minute]);
        }

        /** Of how much use a SEAT is, at a CELL that has no wall. */
        int useOf(int x, int y, int side) {
            guest.x = x;
            guest.y = y;
            guest.side = side;
            guest.from = 0;
            guest.to = file.minutes - 1;
            guest.fee = 1;
            int guestSees = lookAround(GUEST, guest);
            if (!file.mayHear(guestSees, guest.fee)) {
                return 0;
            }
            return Long.bitCount(pairsPartedBy(GUEST) & ~parted) / 2;
        }

        /** Whether there is a SEAT; the best one is sought once for a CASE. */
        boolean findBest() {
            if (!bestKnown) {
                bestKnown = true;
                bestUse = NONE;
                for (int y = 0; y < file.up; y++) {
                    for (int x = 0; x < file.across; x++) {
                        for (int side = 0; side < SIDES && !file.hasWall(x, y); side++) {
                            keepBest(x, y, side, useOf(x, y, side));
                        }
                    }
                }
            }
            return bestUse != NONE;
        }

        private void keepBest(int x, int y, int side, int use) {
            if (use > bestUse) {
                bestUse = use;
                bestX = x;
                bestY = y;
                bestSide = side;
            }
        }
    }

    /** Whom to call so that it is known which DEED of a set it is. */
    private static final class Plans {
        private static final int SETS = 1 << MOST_DEEDS;

        private final Hearing hearing;
        private boolean known = false;
        private final int[] fees = new int[SETS];
        private final int[] first = new int[SETS];
        private final int[] turnFees = new int[SETS];

        Plans(Hearing held) {
            hearing = held;
        }

        void forget() {
            known = false;
        }

        /** The LIST of a set of DEEDS: sets of WITNESSES are tried from the least on, so that of like ones it stays. */
        int cheapest(int deeds) {
            long wanted = hearing.parted & pairsOf(deeds);
            int best = NONE;
            int bestFees = 0;
            for (int set = 0; set < 1 << hearing.file.witnesses.count; set++) {
                int setFees = feesOf(set);
                if ((best == NONE || setFees < bestFees) && partAll(set, wanted)) {
                    best = set;
                    bestFees = setFees;
                }
            }
            return best;
        }

        int feesOf(int set) {
            int sum = 0;
            for (int witness = 0; witness < hearing.file.witnesses.count; witness++) {
                if ((set >> witness & 1) == 1) {
                    sum += hearing.file.looks[witness].fee;
                }
            }
            return sum;
        }

        private boolean partAll(int set, long wanted) {
            long pairs = 0;
            for (int witness = 0; witness < hearing.file.witnesses.count; witness++) {
                if ((set >> witness & 1) == 1 && hearing.isHeard(witness)) {
                    pairs |= hearing.partedBy[witness];
                }
            }
            return (wanted & ~pairs) == 0;
        }

        int feesByRounds(int deeds) {
            workOut();
            return fees[deeds];
        }

        int firstCalled(int deeds) {
            workOut();
            return first[deeds];
        }

        int feesByTurn(int deeds) {
            workOut();
            return turnFees[deeds];
        }

        /** What is left of a set is a lesser number than the set, so that its fees are known ahead of it. */
        private void workOut() {
            if (known) {
                return;
            }
            known = true;
            for (int set = 0; set < 1 << hearing.file.deeds.count; set++) {
                fees[set] = 0;
                first[set] = NONE;
                turnFees[set] = 0;
                if ((hearing.parted & pairsOf(set)) != 0) {
                    chooseFirst(set);
                }
            }
        }

        private void chooseFirst(int set) {
            long pairs = pairsOf(set);
            for (int witness = 0; witness < hearing.file.witnesses.count; witness++) {
                if (!hearing.isHeard(witness) || (hearing.partedBy[witness] & pairs) == 0) {
                    continue;
                }
                int fee = hearing.file.looks[witness].fee;
                if (first[set] == NONE) {
                    turnFees[set] = fee + greatestLeft(set, witness, turnFees);
                }
                int all = fee + greatestLeft(set, witness, fees);
                if (first[set] == NONE || all < fees[set]) {
                    fees[set] = all;
                    first[set] = witness;
                }
            }
        }

        private int greatestLeft(int set, int witness, int[] feesOfLess) {
            int greatest = 0;
            for (int deed = 0; deed < MOST_DEEDS; deed++) {
                if ((set >> deed & 1) == 1) {
                    int unlike = (int) (hearing.partedBy[witness] >> deed * MOST_DEEDS);
                    greatest = Math.max(greatest, feesOfLess[set & ~unlike]);
                }
            }
            return greatest;
        }
    }

    /** STATEMENTS and the TIME; an image of them is another one of these. */
    private static final class Protocol {
        final int[] who = new int[MOST_STATEMENTS];
        final int[] cell = new int[MOST_STATEMENTS];
        final int[] minute = new int[MOST_STATEMENTS];
        final int[] things = new int[MOST_STATEMENTS];
        final int[] told = new int[MOST_STATEMENTS];
        final int[] untold = new int[MOST_STATEMENTS];
        int count = 0;
        int time = 0;
        boolean kept = false;

        int write(int witness, int atCell, int inMinute, int saidThings) {
            if (count >= MOST_STATEMENTS) {
                return NONE;
            }
            who[count] = witness;
            cell[count] = atCell;
            minute[count] = inMinute;
            things[count] = saidThings;
            told[count] = time;
            untold[count] = NONE;
            count++;
            return count - 1;
        }

        boolean counts(int statement, int k) {
            return told[statement] <= k && (untold[statement] == NONE || untold[statement] > k);
        }

        /** Whether two STATEMENTS are of one WITNESS, CELL and MINUTE, and tell unlike THINGS. */
        boolean clash(int a, int b) {
            return who[a] == who[b] && cell[a] == cell[b] && minute[a] == minute[b] && things[a] != things[b];
        }

        void copy(Protocol from) {
            System.arraycopy(from.who, 0, who, 0, MOST_STATEMENTS);
            System.arraycopy(from.cell, 0, cell, 0, MOST_STATEMENTS);
            System.arraycopy(from.minute, 0, minute, 0, MOST_STATEMENTS);
            System.arraycopy(from.things, 0, things, 0, MOST_STATEMENTS);
            System.arraycopy(from.told, 0, told, 0, MOST_STATEMENTS);
            System.arraycopy(from.untold, 0, untold, 0, MOST_STATEMENTS);
            count = from.count;
            time = from.time;
        }
    }
}
