import java.util.Arrays;

/** A hall of blocks that writes ballot behind ballot till enough of its members have one name. */
public final class SmokeHall {
    public static final int BAD = -1, NOT = -2, FULL = -3, NONE = -4, NULL = -11, CAST = -12, INDEX = -13, SIZE = -14;

    private static final int NAMES = 5;
    private static final int BLOCKS = 6;
    private static final int MEMBERS = 20;
    private static final int BALLOTS = 32;
    private static final int DAYS = 8;
    private static final int BALLOTS_A_DAY = 4;
    private static final int BAR_MOST = 12;
    private static final int LOTS = 16;
    private static final int LOT_VALUES = 4;
    private static final int LOT_BLOCKS = 2;
    private static final int TAPE = 80;
    private static final int TYPED_MOST = 8;
    private static final int SHEETS = 4;
    private static final int ITEMS = 24;

    private static final int FAULT = -20;
    private static final int NOTHING = -1;
    private static final int NEVER = BALLOTS;
    private static final int UNWORTHY = 9;
    private static final int WAITS_MOST = 4;
    private static final int ASIDE_BALLOTS = 8;
    private static final int CHANCE_BALLOTS = 12;
    private static final int JUDGED_BALLOTS = 4;

    private static final int FIRM = 0, NEXT = 1, LEAD = 2, FOLLOW = 3, BY_LOTS = 4;
    private static final int BYTES = 0, SHORTS = 1, INTS = 2;

    /** A state is what all blocks wrote, a digit of this base for each block. */
    private static final int WRITINGS = NAMES + 1;
    /** All states there are: no chain of states is longer ere it comes round. */
    private static final int STATES = 46656;
    private static final int LONG_BITS = 64;

    private final Tape tape = new Tape();
    private final Told told = new Told();
    private final Course course = new Course();
    private final Told keptTold = new Told();
    private final Course keptCourse = new Course();
    private boolean kept = false;
    /** What would be is tried on these two, so that the hall stays as it is. */
    private final Told trialTold = new Told();
    private final Course trial = new Course();
    private final Odds odds = new Odds();
    private final Sheets sheets = new Sheets();

    public SmokeHall() {
    }

    // ---- 1 the hall

    public int type(long w, int n) {
        if (n < 1 || n > TYPED_MOST || !Tape.printable(w, n)) {
            return BAD;
        }
        if (tape.length + n > TAPE) {
            return FULL;
        }
        tape.append(w, n);
        return tape.length;
    }

    public int hall() {
        int answer = tape.read(trialTold);
        // a tape with a fault goes too: no other call could ever empty it
        tape.length = 0;
        if (answer > 0) {
            told.takeBlocks(trialTold);
            course.restart();
        }
        return answer;
    }

    public int block(int block, int what) {
        if (!isBlock(block)) {
            return BAD;
        }
        switch (what) {
            case 0:
                return told.members[block];
            case 1:
                return told.moves[block];
            case 2:
                return told.hasDigit(block) ? told.digits[block] : NONE;
            case 3:
                return told.sizes[block];
            case 4:
                return orNone(course.wrote[block]);
            default:
                return BAD;
        }
    }

    public int order(int block, int i) {
        // below 0 there is no place in any order; too far on there is merely none in this one
        if (!isBlock(block) || i < 0) {
            return BAD;
        }
        return orNone(told.nameAt(block, i));
    }

    public int bar(int day, int p, int q) {
        if (!isDay(day) || p < 1 || q < p || q > BAR_MOST) {
            return BAD;
        }
        int was = 12 * told.above[day] + told.below[day];
        told.above[day] = p;
        told.below[day] = q;
        return was;
    }

    public int need(int day) {
        if (!isDay(day)) {
            return BAD;
        }
        return isEmpty() ? NOT : told.needed(day);
    }

    public int strike(int name, int ballot) {
        if (!isName(name) || ballot < 0 || ballot > NEVER) {
            return BAD;
        }
        int was = told.struck[name];
        told.struck[name] = ballot;
        return was;
    }

    public int lot(int i, int v) {
        if (i < 0 || i >= LOTS || !isLotValue(v)) {
            return BAD;
        }
        int was = told.lots[i];
        told.lots[i] = v;
        return was;
    }

    public int lots(int sheet, int lane, int from, int n) {
        if (n < 1 || n > LOTS) {
            return BAD;
        }
        int refusal = sheets.refusalOfRow(sheet, lane, from, n);
        if (refusal != 0) {
            return refusal;
        }
        for (int i = 0; i < n; i++) {
            if (!isLotValue(sheets.at(sheet, from + i))) {
                return NOT;
            }
        }
        for (int i = 0; i < n; i++) {
            told.lots[i] = sheets.at(sheet, from + i);
        }
        return n;
    }

    public int begin() {
        if (isEmpty()) {
            return NOT;
        }
        int were = course.ballots;
        course.restart();
        return were;
    }

    public int ballots(int n) {
        if (n < 1 || n > BALLOTS) {
            return BAD;
        }
        if (isEmpty()) {
            return NOT;
        }
        course.goOn(told, n);
        return course.ballots;
    }

    public int count(int name) {
        return isName(name) ? course.counts[name] : BAD;
    }

    public int chosen() {
        return orNone(course.chosen);
    }

    public int many(int what) {
        switch (what) {
            case 0:
                return told.blocks;
            case 1:
                return told.allMembers();
            case 2:
                return course.ballots;
            case 3:
                return course.used;
            case 4:
                return Integer.bitCount(told.namesAlive(course.nextBallot()));
            default:
                return BAD;
        }
    }

    // ---- 2 what would be (the hall stays as it is)

    public int ends(int what) {
        if (what < 0 || what > 1) {
            return BAD;
        }
        if (isEmpty()) {
            return NOT;
        }
        trial.goAll(told);
        if (trial.chosen == NOTHING) {
            return NONE;
        }
        return what == 0 ? trial.chosen : trial.endedBy();
    }

    public int ring(int what) {
        if (what < 0 || what > 1) {
            return BAD;
        }
        if (isEmpty() || told.lotBlock(0) != NOTHING) {
            return NOT;
        }
        trialTold.takeAll(told);
        trialTold.freezeStrikes(course.nextBallot());
        int start = course.state();
        int loop = loopFrom(start);
        return what == 0 ? tailFrom(start, loop) : loop;
    }

    public long chance(int name, int n, int what) {
        if (!isName(name) || n < 1 || n > CHANCE_BALLOTS || what < 0 || what > 1) {
            return BAD;
        }
        if (isEmpty()) {
            return NOT;
        }
        odds.reckon(told, course, name, n);
        return what == 0 ? odds.above : odds.below;
    }

    public int can(int name, int day) {
        if (!isName(name) || !isDay(day)) {
            return BAD;
        }
        if (isEmpty()) {
            return NOT;
        }
        int bearers = told.bearers(name);
        return told.membersOf(bearers) >= told.needed(day) ? bearers : NONE;
    }

    public int makes(int name, int day) {
        if (!isName(name) || !isDay(day)) {
            return BAD;
        }
        if (isEmpty()) {
            return NOT;
        }
        return fewestAmong(told.bearers(name), told.needed(day));
    }

    public int stops(int day) {
        if (!isDay(day)) {
            return BAD;
        }
        if (isEmpty()) {
            return NOT;
        }
        // others have fewer than are needed once this many stay away
        int away = told.allMembers() - told.needed(day) + 1;
        return fewestAmong(told.allBlocks(), away);
    }

    public int rather(int a, int b) {
        if (!isName(a) || !isName(b) || a == b) {
            return BAD;
        }
        return isEmpty() ? NOT : told.preferring(a, b);
    }

    public int beats(int how) {
        if (how < 0 || how > 1) {
            return BAD;
        }
        if (isEmpty()) {
            return NOT;
        }
        for (int name = 0; name < NAMES; name++) {
            if (beatsEachOther(name, how)) {
                return name;
            }
        }
        return NONE;
    }

    public int waits(int block, int what) {
        if (!isBlock(block) || what < 0 || what > 1) {
            return BAD;
        }
        int best = 0;
        int worth = worthOfWaiting(block, 0);
        for (int w = 1; w <= WAITS_MOST; w++) {
            int worthThen = worthOfWaiting(block, w);
            if (worthThen < worth) {
                best = w;
                worth = worthThen;
            }
        }
        return what == 0 ? best : worth;
    }

    public int aside(int what) {
        if (what < 0 || what > 2) {
            return BAD;
        }
        if (isEmpty()) {
            return NOT;
        }
        int key = soonestAside();
        if (key < 0) {
            return NONE;
        }
        switch (what) {
            case 0:
                return key & 7;
            case 1:
                return (key >> 3) & 7;
            default:
                return key >> 6;
        }
    }

    public int edge(int block) {
        if (!isBlock(block)) {
            return BAD;
        }
        trialTold.takeAll(told);
        trial.goAll(trialTold);
        int byItself = trial.chosen;
        for (int i = 0; i + 1 < told.sizes[block]; i++) {
            trialTold.changeRound(block, i);
            trial.goAll(trialTold);
            if (trial.chosen != byItself) {
                return i;
            }
            trialTold.changeRound(block, i);
        }
        return NONE;
    }

    public int judge(int sheet, int lane, int from, int n) {
        if (n < 1 || n > JUDGED_BALLOTS) {
            return BAD;
        }
        int refusal = sheets.refusalOfRow(sheet, lane, from, NAMES * n);
        if (refusal != 0) {
            return refusal;
        }
        if (isEmpty()) {
            return NOT;
        }
        trial.restart();
        for (int ballot = 0; ballot < n; ballot++) {
            if (trial.isOver()) {
                return ballot;
            }
            trial.goOn(told, 1);
            if (!countsStandAt(sheet, from + NAMES * ballot)) {
                return ballot;
            }
        }
        return NONE;
    }

    public int image() {
        keptTold.takeAll(told);
        keptCourse.takeAll(course);
        kept = true;
        return 1;
    }

    public int restore() {
        if (!kept) {
            return NONE;
        }
        told.takeAll(keptTold);
        course.takeAll(keptCourse);
        return 1;
    }

    // ---- 3 sheets

    public int sheet(int sheet, int lane, int n) {
        if (!Sheets.isSheet(sheet) || !Sheets.isLane(lane) || n > ITEMS) {
            return BAD;
        }
        if (n < 0) {
            return SIZE;
        }
        sheets.lay(sheet, lane, n);
        return n;
    }

    public int drop(int sheet) {
        if (!Sheets.isSheet(sheet)) {
            return BAD;
        }
        return sheets.isMissing(sheet) ? NULL : sheets.takeAway(sheet);
    }

    public int item(int sheet, int lane, int i, int v) {
        int refusal = sheets.refusalOfRow(sheet, lane, i, 1);
        if (refusal != 0) {
            return refusal;
        }
        sheets.put(sheet, i, v);
        return 1;
    }

    // ---- what the calls share

    private static boolean isName(int name) {
        return name >= 0 && name < NAMES;
    }

    private static boolean isDay(int day) {
        return day >= 0 && day < DAYS;
    }

    private static boolean isLotValue(int v) {
        return v >= 0 && v < LOT_VALUES;
    }

    private static int orNone(int name) {
        return name == NOTHING ? NONE : name;
    }

    private boolean isBlock(int block) {
        return block >= 0 && block < told.blocks;
    }

    private boolean isEmpty() {
        return told.blocks == 0;
    }

    /**
     * The state behind another, of the trial with its strikes frozen, so that any ballot does. Even ahead of all ballots
     * it need not be the first one: where nothing is written, each move is as firm.
     */
    private int stateAfter(int state) {
        trial.takeState(trialTold, state);
        trial.write(trialTold, 1, 0);
        return trial.state();
    }

    /** How long the loop is that a state runs into. Brent's way, as it keeps no list of states. */
    private int loopFrom(int start) {
        int resting = start;
        int running = stateAfter(start);
        int loop = 1;
        int reach = 1;
        for (int i = 0; i < 4 * STATES && running != resting; i++) {
            if (loop == reach) {
                resting = running;
                reach *= 2;
                loop = 0;
            }
            running = stateAfter(running);
            loop++;
        }
        return loop;
    }

    private int tailFrom(int start, int loop) {
        int ahead = start;
        for (int i = 0; i < loop; i++) {
            ahead = stateAfter(ahead);
        }
        int behind = start;
        int tail = 0;
        for (int i = 0; i < STATES && ahead != behind; i++) {
            ahead = stateAfter(ahead);
            behind = stateAfter(behind);
            tail++;
        }
        return tail;
    }

    /** Of sets among some blocks that have enough members that with the fewest, of like ones the least bits. */
    private int fewestAmong(int among, int enough) {
        int best = NONE;
        int fewest = BLOCKS * MEMBERS + 1;
        for (int set = 1; set <= among; set++) {
            if ((set & ~among) == 0) {
                int members = told.membersOf(set);
                if (members >= enough && members < fewest) {
                    best = set;
                    fewest = members;
                }
            }
        }
        return best;
    }

    private boolean beatsEachOther(int name, int how) {
        for (int other = 0; other < NAMES; other++) {
            if (other != name) {
                int enough = how == 0 ? told.preferring(other, name) + 1 : told.needed(0);
                if (told.preferring(name, other) < enough) {
                    return false;
                }
            }
        }
        return true;
    }

    private int worthOfWaiting(int block, int w) {
        trial.restart();
        trial.waiter = block;
        trial.wait = w;
        trial.goOn(told, BALLOTS);
        int place = told.place(block, trial.chosen);
        return place == NOTHING ? UNWORTHY : place;
    }

    /** End, ballot and name in one number, so that the least number is the one that is asked for; or NONE. */
    private int soonestAside() {
        trialTold.takeAll(told);
        trial.goAll(trialTold);
        int byItself = trial.endedBy() << 6;
        int best = byItself;
        for (int ballot = 0; ballot < ASIDE_BALLOTS; ballot++) {
            for (int name = 0; name < NAMES; name++) {
                int was = trialTold.struck[name];
                if (ballot < was) {
                    trialTold.struck[name] = ballot;
                    trial.goAll(trialTold);
                    best = Math.min(best, (trial.endedBy() << 6) + (ballot << 3) + name);
                    trialTold.struck[name] = was;
                }
            }
        }
        return best < byItself ? best : NONE;
    }

    private boolean countsStandAt(int sheet, int from) {
        for (int name = 0; name < NAMES; name++) {
            if (sheets.at(sheet, from + name) != trial.counts[name]) {
                return false;
            }
        }
        return true;
    }

    /** The typed bytes, and how they are read as a hall. */
    private static final class Tape {
        private static final int END = -1;

        final byte[] bytes = new byte[TAPE];
        int length = 0;
        /** Where the reading stands; where it fails, this is the place of the fault. */
        int at = 0;
        int lotBlocks = 0;
        final int[] digitPlaces = new int[BLOCKS];

        static boolean printable(long w, int n) {
            for (int i = 0; i < n; i++) {
                long sign = (w >>> (8 * i)) & 255;
                if (sign < 32 || sign > 126) {
                    return false;
                }
            }
            return true;
        }

        void append(long w, int n) {
            for (int i = n - 1; i >= 0 && length < TAPE; i--) {
                bytes[length] = (byte) (w >>> (8 * i));
                length++;
            }
        }

        /** How many blocks the tape tells, or a fault; what it tells is put down as it is read. */
        int read(Told into) {
            at = 0;
            lotBlocks = 0;
            into.blocks = 0;
            boolean good = readClause(into);
            for (int i = 1; i < BLOCKS && good && sign() == ';'; i++) {
                at++;
                good = readClause(into);
            }
            if (!good || sign() != END) {
                return FAULT - at;
            }
            return answerOf(into);
        }

        /** Blocks to follow can be looked for only when all of them are read. */
        private int answerOf(Told into) {
            for (int b = 0; b < into.blocks; b++) {
                if (into.moves[b] == FOLLOW && into.digits[b] >= into.blocks) {
                    return FAULT - digitPlaces[b];
                }
            }
            return into.blocks;
        }

        private boolean readClause(Told into) {
            int block = into.blocks;
            if (block >= BLOCKS || !readMembers(into, block) || !readMove(into, block) || sign() != ':') {
                return false;
            }
            at++;
            readNames(into, block);
            if (into.sizes[block] == 0) {
                return false;
            }
            into.blocks++;
            return true;
        }

        private boolean readMembers(Told into, int block) {
            sign();
            int start = at;
            int value = 0;
            while (at < length && bytes[at] >= '0' && bytes[at] <= '9') {
                // held low, as a number may have as many digits as the tape
                value = Math.min(value * 10 + bytes[at] - '0', MEMBERS + 1);
                at++;
            }
            into.members[block] = value;
            if (value < 1 || value > MEMBERS) {
                at = start;
                return false;
            }
            return true;
        }

        private boolean readMove(Told into, int block) {
            int move = moveOf(sign());
            if (move == NOTHING || (move == BY_LOTS && lotBlocks == LOT_BLOCKS)) {
                return false;
            }
            into.moves[block] = move;
            into.digits[block] = 0;
            at++;
            switch (move) {
                case FOLLOW:
                    return readDigit(into, block, '0', '5');
                case BY_LOTS:
                    lotBlocks++;
                    return readDigit(into, block, '1', '3');
                default:
                    return true;
            }
        }

        private boolean readDigit(Told into, int block, int least, int most) {
            int digit = sign();
            if (digit < least || digit > most) {
                return false;
            }
            into.digits[block] = digit - '0';
            digitPlaces[block] = at;
            at++;
            return true;
        }

        /** Names as long as each is a new one: another sign is left standing for the caller to judge. */
        private void readNames(Told into, int block) {
            into.sizes[block] = 0;
            for (int i = 0; i < NAMES; i++) {
                int name = sign() - 'a';
                if (!isName(name) || into.place(block, name) != NOTHING) {
                    return;
                }
                into.orders[block * NAMES + i] = name;
                into.sizes[block] = i + 1;
                at++;
            }
        }

        /** The next byte that is no blank, on which the reading then stands. */
        private int sign() {
            while (at < length && bytes[at] == ' ') {
                at++;
            }
            return at < length ? bytes[at] : END;
        }

        private static int moveOf(int sign) {
            switch (sign) {
                case 'f':
                    return FIRM;
                case 'n':
                    return NEXT;
                case 'l':
                    return LEAD;
                case 'o':
                    return FOLLOW;
                case 'k':
                    return BY_LOTS;
                default:
                    return NOTHING;
            }
        }
    }

    /** What is told: the blocks, and bars, strikes and lots, which outlive a hall. */
    private static final class Told {
        int blocks = 0;
        final int[] members = new int[BLOCKS];
        final int[] moves = new int[BLOCKS];
        final int[] digits = new int[BLOCKS];
        final int[] sizes = new int[BLOCKS];
        /** Five places a block. */
        final int[] orders = new int[BLOCKS * NAMES];
        final int[] above = new int[DAYS];
        final int[] below = new int[DAYS];
        final int[] struck = new int[NAMES];
        final int[] lots = new int[LOTS];

        Told() {
            Arrays.fill(above, 2);
            Arrays.fill(below, 3);
            Arrays.fill(struck, NEVER);
        }

        void takeBlocks(Told from) {
            blocks = from.blocks;
            System.arraycopy(from.members, 0, members, 0, BLOCKS);
            System.arraycopy(from.moves, 0, moves, 0, BLOCKS);
            System.arraycopy(from.digits, 0, digits, 0, BLOCKS);
            System.arraycopy(from.sizes, 0, sizes, 0, BLOCKS);
            System.arraycopy(from.orders, 0, orders, 0, BLOCKS * NAMES);
        }

        void takeAll(Told from) {
            takeBlocks(from);
            System.arraycopy(from.above, 0, above, 0, DAYS);
            System.arraycopy(from.below, 0, below, 0, DAYS);
            System.arraycopy(from.struck, 0, struck, 0, NAMES);
            System.arraycopy(from.lots, 0, lots, 0, LOTS);
        }

        /** Whoever is struck in a ballot is so in all, and nobody else in any. */
        void freezeStrikes(int ballot) {
            for (int name = 0; name < NAMES; name++) {
                struck[name] = ballot < struck[name] ? NEVER : 0;
            }
        }

        void changeRound(int block, int i) {
            int slot = block * NAMES + i;
            if (slot < 0 || slot + 1 >= BLOCKS * NAMES) {
                return;
            }
            int name = orders[slot];
            orders[slot] = orders[slot + 1];
            orders[slot + 1] = name;
        }

        boolean hasDigit(int block) {
            return moves[block] == FOLLOW || moves[block] == BY_LOTS;
        }

        int nameAt(int block, int i) {
            return i >= 0 && i < sizes[block] ? orders[block * NAMES + i] : NOTHING;
        }

        int place(int block, int name) {
            int start = block * NAMES;
            for (int i = 0; i < sizes[block]; i++) {
                if (orders[start + i] == name) {
                    return i;
                }
            }
            return NOTHING;
        }

        int allBlocks() {
            return (1 << blocks) - 1;
        }

        int allMembers() {
            return membersOf(allBlocks());
        }

        int membersOf(int set) {
            int sum = 0;
            for (int b = 0; b < blocks; b++) {
                if ((set >> b & 1) == 1) {
                    sum += members[b];
                }
            }
            return sum;
        }

        int bearers(int name) {
            int set = 0;
            for (int b = 0; b < blocks; b++) {
                if (place(b, name) != NOTHING) {
                    set |= 1 << b;
                }
            }
            return set;
        }

        int preferring(int name, int other) {
            int sum = 0;
            for (int b = 0; b < blocks; b++) {
                int mine = place(b, name);
                int its = place(b, other);
                if (mine != NOTHING && (its == NOTHING || mine < its)) {
                    sum += members[b];
                }
            }
            return sum;
        }

        int needed(int day) {
            int q = isDay(day) ? Math.max(1, below[day]) : 1;
            int p = isDay(day) ? above[day] : 1;
            return (allMembers() * p + q - 1) / q;
        }

        /** The names, as bits, that are alive in a ballot. */
        int namesAlive(int ballot) {
            int set = 0;
            for (int name = 0; name < NAMES; name++) {
                if (ballot < struck[name]) {
                    set |= 1 << name;
                }
            }
            return set;
        }

        /** The first name alive from a place of an order on, or nothing. */
        int firstAlive(int block, int from, int alive) {
            int start = block * NAMES;
            for (int i = from; i < sizes[block]; i++) {
                if ((alive >> orders[start + i] & 1) == 1) {
                    return orders[start + i];
                }
            }
            return NOTHING;
        }

        /** Block number i of those that leave it to lots, or nothing. */
        int lotBlock(int i) {
            int seen = 0;
            for (int b = 0; b < blocks; b++) {
                if (moves[b] == BY_LOTS) {
                    if (seen == i) {
                        return b;
                    }
                    seen++;
                }
            }
            return NOTHING;
        }
    }

    /** How far the ballots have come, and what was written in the latest. */
    private static final class Course {
        int ballots = 0;
        int used = 0;
        int chosen = NOTHING;
        /** A block that writes nothing in so many ballots; none does but where waiting is tried. */
        int waiter = NOTHING;
        int wait = 0;
        final int[] wrote = new int[BLOCKS];
        final int[] writes = new int[BLOCKS];
        final int[] counts = new int[NAMES];

        Course() {
            Arrays.fill(wrote, NOTHING);
        }

        void restart() {
            ballots = 0;
            used = 0;
            chosen = NOTHING;
            waiter = NOTHING;
            wait = 0;
            Arrays.fill(wrote, NOTHING);
            Arrays.fill(counts, 0);
        }

        void takeAll(Course from) {
            ballots = from.ballots;
            used = from.used;
            chosen = from.chosen;
            System.arraycopy(from.wrote, 0, wrote, 0, BLOCKS);
            System.arraycopy(from.counts, 0, counts, 0, NAMES);
        }

        boolean isOver() {
            return chosen != NOTHING || ballots >= BALLOTS;
        }

        int nextBallot() {
            return Math.min(ballots, BALLOTS - 1);
        }

        int endedBy() {
            return chosen == NOTHING ? NEVER : ballots - 1;
        }

        void goAll(Told told) {
            restart();
            goOn(told, BALLOTS);
        }

        void goOn(Told told, int most) {
            for (int i = 0; i < most && !isOver(); i++) {
                int luck = draw(told);
                write(told, ballots, luck);
                chosen = winner(told, ballots);
                ballots++;
            }
        }

        /** The ballot in which a block is firm whatever its move; its move begins behind it. */
        private int firmBallot(int block) {
            return block == waiter ? wait : 0;
        }

        /** The blocks, as bits, whose lots send them to whoever leads. */
        private int draw(Told told) {
            int luck = 0;
            for (int b = 0; b < told.blocks; b++) {
                if (told.moves[b] == BY_LOTS && ballots > firmBallot(b)) {
                    if (told.lots[used % LOTS] < told.digits[b]) {
                        luck |= 1 << b;
                    }
                    used++;
                }
            }
            return luck;
        }

        /** All blocks write one ballot, by what was written in the one ahead. */
        void write(Told told, int ballot, int luck) {
            int last = lastName();
            int alive = told.namesAlive(ballot);
            for (int b = 0; b < told.blocks; b++) {
                int firmIn = firmBallot(b);
                if (ballot > firmIn) {
                    writes[b] = byMove(told, b, alive, last, luck);
                } else {
                    writes[b] = ballot == firmIn ? told.firstAlive(b, 0, alive) : NOTHING;
                }
            }
            System.arraycopy(writes, 0, wrote, 0, told.blocks);
            tally(told);
        }

        private int byMove(Told told, int block, int alive, int last, int luck) {
            switch (told.moves[block]) {
                case NEXT:
                    return byNext(told, block, alive, last);
                case LEAD:
                    return byLead(told, block, alive);
                case FOLLOW:
                    return byFollow(told, block, alive);
                case BY_LOTS:
                    return (luck >> block & 1) == 1 ? byLead(told, block, alive) : told.firstAlive(block, 0, alive);
                default:
                    return told.firstAlive(block, 0, alive);
            }
        }

        private int byNext(Told told, int block, int alive, int last) {
            int name = wrote[block];
            boolean lives = isName(name) && (alive >> name & 1) == 1;
            if (lives && name != last) {
                return name;
            }
            int place = told.place(block, name);
            int behind = place == NOTHING ? NOTHING : told.firstAlive(block, place + 1, alive);
            if (behind != NOTHING) {
                return behind;
            }
            return lives ? name : told.firstAlive(block, 0, alive);
        }

        private int byFollow(Told told, int block, int alive) {
            int other = told.digits[block];
            int name = other >= 0 && other < BLOCKS ? wrote[other] : NOTHING;
            boolean lives = isName(name) && (alive >> name & 1) == 1;
            return lives && told.place(block, name) != NOTHING ? name : told.firstAlive(block, 0, alive);
        }

        private int byLead(Told told, int block, int alive) {
            int best = NOTHING;
            int most = -1;
            int start = block * NAMES;
            for (int i = 0; i < told.sizes[block]; i++) {
                int name = told.orders[start + i];
                if ((alive >> name & 1) == 1 && counts[name] > most) {
                    best = name;
                    most = counts[name];
                }
            }
            return best;
        }

        private int lastName() {
            int last = NOTHING;
            int written = 0;
            for (int name = 0; name < NAMES; name++) {
                if (counts[name] > 0) {
                    written++;
                    if (last == NOTHING || counts[name] < counts[last]) {
                        last = name;
                    }
                }
            }
            return written > 1 ? last : NOTHING;
        }

        private void tally(Told told) {
            Arrays.fill(counts, 0);
            for (int b = 0; b < told.blocks; b++) {
                if (isName(wrote[b])) {
                    counts[wrote[b]] += told.members[b];
                }
            }
        }

        int winner(Told told, int ballot) {
            int best = 0;
            for (int name = 1; name < NAMES; name++) {
                if (counts[name] > counts[best]) {
                    best = name;
                }
            }
            return counts[best] >= told.needed(ballot / BALLOTS_A_DAY) ? best : NOTHING;
        }

        int state() {
            int state = 0;
            for (int b = BLOCKS - 1; b >= 0; b--) {
                state = state * WRITINGS + wrote[b] + 1;
            }
            return state;
        }

        void takeState(Told told, int state) {
            waiter = NOTHING;
            wait = 0;
            int rest = state;
            for (int b = 0; b < BLOCKS; b++) {
                wrote[b] = rest % WRITINGS - 1;
                rest /= WRITINGS;
            }
            tally(told);
        }
    }

    /** How likely a name is: states and their weights go from ballot to ballot, like states as one. */
    private static final class Odds {
        long above = 0;
        long below = 1;
        private Spread now = new Spread();
        private Spread then = new Spread();
        private final Course trial = new Course();

        void reckon(Told told, Course from, int name, int n) {
            above = from.chosen == name ? 1 : 0;
            below = 1;
            now.empty();
            if (from.chosen == NOTHING) {
                now.add(from.state(), 1);
            }
            for (int i = 0; i < n && from.ballots + i < BALLOTS && now.size > 0; i++) {
                goOn(told, from.ballots + i, name);
            }
            lower();
        }

        private void goOn(Told told, int ballot, int name) {
            // no lot is used in the first ballot
            int first = ballot == 0 ? NOTHING : told.lotBlock(0);
            int second = ballot == 0 ? NOTHING : told.lotBlock(1);
            long ways = (first == NOTHING ? 1L : LOT_VALUES) * (second == NOTHING ? 1L : LOT_VALUES);
            above *= ways;
            below *= ways;
            then.empty();
            for (int i = 0; i < 2; i++) {
                for (int j = 0; j < 2; j++) {
                    long share = share(told, first, i) * share(told, second, j);
                    if (share > 0) {
                        spread(told, ballot, name, luckOf(first, i) | luckOf(second, j), share);
                    }
                }
            }
            Spread spent = now;
            now = then;
            then = spent;
        }

        /** Of a lot's values how many send a block to the leader (1) or not (0); where there is no block, one way. */
        private static long share(Told told, int block, int leads) {
            if (block == NOTHING) {
                return 1 - leads;
            }
            return leads == 1 ? told.digits[block] : LOT_VALUES - told.digits[block];
        }

        private static int luckOf(int block, int leads) {
            return block == NOTHING ? 0 : leads << block;
        }

        private void spread(Told told, int ballot, int name, int luck, long share) {
            for (int i = 0; i < now.size; i++) {
                trial.takeState(told, now.states[i]);
                trial.write(told, ballot, luck);
                long weight = now.weights[i] * share;
                int winner = trial.winner(told, ballot);
                if (winner == NOTHING) {
                    then.add(trial.state(), weight);
                } else if (winner == name) {
                    above += weight;
                }
            }
        }

        /** What is below is a power of two, so halving both is all it takes. */
        private void lower() {
            for (int i = 0; i < LONG_BITS && (above & 1) == 0 && (below & 1) == 0; i++) {
                above /= 2;
                below /= 2;
            }
        }
    }

    /** States with their weights, found by hashing; grown but seldom, and then kept so. */
    private static final class Spread {
        int size = 0;
        int[] states = new int[32];
        long[] weights = new long[32];
        /** Each state's place and one, or 0; four times as many as places, so that one is always free. */
        private int[] slots = new int[128];

        void empty() {
            size = 0;
            Arrays.fill(slots, 0);
        }

        void add(int state, long weight) {
            int slot = slotOf(state);
            if (slots[slot] != 0) {
                weights[slots[slot] - 1] += weight;
                return;
            }
            if (size == states.length) {
                grow();
                slot = slotOf(state);
            }
            states[size] = state;
            weights[size] = weight;
            size++;
            slots[slot] = size;
        }

        /** Where a state is, or the free slot where it may be put. */
        private int slotOf(int state) {
            int mask = slots.length - 1;
            int slot = (state * 40503 >>> 4) & mask;
            for (int i = 0; i <= mask && slots[slot] != 0; i++) {
                if (states[slots[slot] - 1] == state) {
                    return slot;
                }
                slot = (slot + 1) & mask;
            }
            return slot;
        }

        private void grow() {
            states = Arrays.copyOf(states, 2 * states.length);
            weights = Arrays.copyOf(weights, 2 * weights.length);
            slots = new int[2 * slots.length];
            for (int i = 0; i < size; i++) {
                slots[slotOf(states[i])] = i + 1;
            }
        }
    }

    /** Rows that may be missing; each keeps its place, so that a new one costs nothing. */
    private static final class Sheets {
        private static final int MISSING = -1;

        private final int[] lanes = new int[SHEETS];
        private final int[] sizes = new int[SHEETS];
        private final int[] items = new int[SHEETS * ITEMS];

        Sheets() {
            Arrays.fill(lanes, MISSING);
        }

        static boolean isSheet(int sheet) {
            return sheet >= 0 && sheet < SHEETS;
        }

        static boolean isLane(int lane) {
            return lane >= BYTES && lane <= INTS;
        }

        boolean isMissing(int sheet) {
            return lanes[sheet] == MISSING;
        }

        void lay(int sheet, int lane, int n) {
            lanes[sheet] = lane;
            sizes[sheet] = n;
            for (int i = 0; i < ITEMS; i++) {
                items[sheet * ITEMS + i] = 0;
            }
        }

        int takeAway(int sheet) {
            lanes[sheet] = MISSING;
            return sizes[sheet];
        }

        /** 0, if n items from one on can be taken as a row of a lane. */
        int refusalOfRow(int sheet, int lane, int from, int n) {
            if (!isSheet(sheet) || !isLane(lane)) {
                return BAD;
            }
            if (isMissing(sheet)) {
                return NULL;
            }
            if (lanes[sheet] != lane) {
                return CAST;
            }
            return from < 0 || from > sizes[sheet] - n ? INDEX : 0;
        }

        int at(int sheet, int i) {
            return items[sheet * ITEMS + i];
        }

        void put(int sheet, int i, int v) {
            items[sheet * ITEMS + i] = lowestBits(lanes[sheet], v);
        }

        private static int lowestBits(int lane, int v) {
            switch (lane) {
                case BYTES:
                    return (byte) v;
                case SHORTS:
                    return (short) v;
                default:
                    return v;
            }
        }
    }
}
