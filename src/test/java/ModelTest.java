import java.util.Random;

/** Random runs of calls, answered by the class and by the model; the seeds are fixed, so each run is the same. */
public final class ModelTest {
    private static final int RUNS = 600;
    private static final int CALLS = 512;
    private static final String[] WIDE = {
        "2k3:eacbd;3n:bdeac;3n:bdcea;1k3:dcbea;4n:cdaeb;3o0:caedb",
        "10o3:db;5n:cdbae;2k3:bcdae;10n:abcd;13o5:acdeb;2k3:cdeab",
        "2k1:cadeb;1k2:aedbc;4n:dabce;12n:becda;11o1:dea;3o0:badce",
        "4k1:acbde;1o0:eacdb;3n:badce;2k1:ebcad;13o1:bcade;12o3:dba"};
    private static final int[] BARS = {11, 9, 10, 10};

    private static int wrong = 0;

    private final Random random;
    private final SmokeHall x = new SmokeHall();
    private final HallModel m = new HallModel();
    private final StringBuilder log = new StringBuilder();
    private int calls = 0;

    private ModelTest(long seed) {
        random = new Random(seed);
    }

    private void same(String call, long got, long want) {
        calls++;
        log.append(call).append(" = ").append(want).append('\n');
        if (got != want && wrong++ < 3) {
            System.out.println(log + call + " answered " + got + ", the model " + want);
        }
    }

    private int upTo(int most) {
        return random.nextInt(most + 1);
    }

    /** Mostly within, now and then just or far outside. */
    private int about(int least, int most) {
        switch (random.nextInt(40)) {
            case 0: return least - 1;
            case 1: return most + 1;
            case 2: return random.nextBoolean() ? Integer.MAX_VALUE : Integer.MIN_VALUE;
            default: return least + random.nextInt(most - least + 1);
        }
    }

    private String text() {
        int blocks = 1 + random.nextInt(6);
        int lotteries = 0;
        boolean alike = random.nextInt(3) == 0;
        StringBuilder text = new StringBuilder();
        for (int b = 0; b < blocks; b++) {
            if (b > 0) {
                text.append(';');
            }
            text.append(alike ? 1 + random.nextInt(3) : 1 + random.nextInt(20));
            char move = "fnnlloknlokk".charAt(random.nextInt(12));
            if (move == 'k' && lotteries++ >= 2) {
                move = 'n';
            }
            text.append(move);
            if (move == 'o') {
                text.append(random.nextInt(blocks));
            }
            if (move == 'k') {
                text.append(1 + random.nextInt(3));
            }
            text.append(':');
            String left = "abcde".substring(0, 2 + random.nextInt(4));
            for (int i = 1 + random.nextInt(left.length()); i > 0; i--) {
                int at = random.nextInt(left.length());
                text.append(left.charAt(at));
                left = left.substring(0, at) + left.substring(at + 1);
            }
        }
        if (random.nextInt(4) == 0) {
            spoil(text);
        }
        return text.length() > 80 ? text.substring(0, 80) : text.toString();
    }

    private void spoil(StringBuilder text) {
        for (int i = random.nextInt(4); i >= 0; i--) {
            int at = random.nextInt(text.length() + 1);
            char sign = "    0123569abcdefnlok:;;k:x~".charAt(random.nextInt(28));
            switch (random.nextInt(4)) {
                case 0:
                    if (at < text.length()) {
                        text.setCharAt(at, sign);
                    }
                    break;
                case 1:
                    if (at < text.length() && text.length() > 1) {
                        text.deleteCharAt(at);
                    }
                    break;
                default:
                    text.insert(at, sign);
            }
        }
    }

    private void typeText(String text) {
        for (int at = 0; at < text.length(); at += 8) {
            String part = text.substring(at, Math.min(text.length(), at + 8));
            long w = random.nextInt(2) == 0 || part.length() == 8 ? 0 : -1L << (8 * part.length());
            for (int i = 0; i < part.length(); i++) {
                w |= (long) part.charAt(i) << (8 * (part.length() - 1 - i));
            }
            same("type(" + w + ", " + part.length() + ") '" + part + "'", x.type(w, part.length()), m.type(w, part.length()));
        }
        same("hall()", x.hall(), m.hall());
    }

    private void look() {
        for (int i = 0; i < 5; i++) {
            same("many(" + i + ")", x.many(i), m.many(i));
            same("count(" + i + ")", x.count(i), m.count(i));
        }
        same("chosen()", x.chosen(), m.chosen());
        for (int b = 0; b < 6; b++) {
            same("block(" + b + ", 4)", x.block(b, 4), m.block(b, 4));
        }
    }

    /** All that can be asked of the blocks and of what would be. */
    private void askAll() {
        int blocks = m.now.blocks.size();
        for (int w = 0; w < 3; w++) {
            same("ends(" + w + ")", x.ends(w), m.ends(w));
            same("ring(" + w + ")", x.ring(w), m.ring(w));
            same("aside(" + w + ")", x.aside(w), m.aside(w));
            same("beats(" + w + ")", x.beats(w), m.beats(w));
        }
        for (int b = 0; b < blocks; b++) {
            same("waits(" + b + ", 0)", x.waits(b, 0), m.waits(b, 0));
            same("waits(" + b + ", 1)", x.waits(b, 1), m.waits(b, 1));
            same("edge(" + b + ")", x.edge(b), m.edge(b));
        }
        for (int name = 0; name < 5; name++) {
            int n = 1 + random.nextInt(12);
            same("chance(" + name + ", " + n + ", 0)", x.chance(name, n, 0), m.chance(name, n, 0));
            same("chance(" + name + ", " + n + ", 1)", x.chance(name, n, 1), m.chance(name, n, 1));
            int day = upTo(7);
            same("can(" + name + ", " + day + ")", x.can(name, day), m.can(name, day));
            same("makes(" + name + ", " + day + ")", x.makes(name, day), m.makes(name, day));
        }
        same("stops(0)", x.stops(0), m.stops(0));
    }

    private void setBar() {
        int d = about(0, 7), p = about(1, 12), q = about(1, 12);
        if (random.nextInt(4) > 0) {
            q = 2 + random.nextInt(11);
            p = q / 2 + random.nextInt(q - q / 2 + 1);
        }
        same("bar(" + d + ", " + p + ", " + q + ")", x.bar(d, p, q), m.bar(d, p, q));
    }

    private void change() {
        switch (random.nextInt(16)) {
            case 0: {
                typeText(text());
                askAll();
                break;
            }
            case 1: {
                long w = random.nextLong();
                int n = about(1, 8);
                same("type(" + w + ", " + n + ")", x.type(w, n), m.type(w, n));
                break;
            }
            case 2: case 3: { setBar(); break; }
            case 4: case 5: {
                int n = about(0, 4), t = random.nextInt(3) == 0 ? 32 : about(0, random.nextBoolean() ? 9 : 32);
                same("strike(" + n + ", " + t + ")", x.strike(n, t), m.strike(n, t));
                break;
            }
            case 6: {
                int i = about(0, 15), v = about(0, 3);
                same("lot(" + i + ", " + v + ")", x.lot(i, v), m.lot(i, v));
                break;
            }
            case 7: { same("begin()", x.begin(), m.begin()); break; }
            case 8: case 9: {
                int n = about(1, random.nextInt(4) == 0 ? 32 : 3);
                same("ballots(" + n + ")", x.ballots(n), m.ballots(n));
                look();
                break;
            }
            case 10: { same("image()", x.image(), m.image()); break; }
            case 11: { same("restore()", x.restore(), m.restore()); look(); break; }
            case 12: { rows(); break; }
            case 13: { fillLots(); break; }
            default: { fillCounts(); }
        }
    }

    private void rows() {
        int s = about(0, 3), l = about(0, 2), n = about(0, 24), v = random.nextInt();
        same("sheet(" + s + ", " + l + ", " + n + ")", x.sheet(s, l, n), m.sheet(s, l, n));
        if (random.nextInt(3) == 0) {
            s = about(0, 3);
            same("drop(" + s + ")", x.drop(s), m.drop(s));
        }
        s = about(0, 3);
        l = about(0, 2);
        n = about(0, 23);
        same("item(" + s + ", " + l + ", " + n + ", " + v + ")", x.item(s, l, n, v), m.item(s, l, n, v));
        n = about(1, 16);
        int from = about(0, 8);
        same("lots(" + s + ", " + l + ", " + from + ", " + n + ")", x.lots(s, l, from, n), m.lots(s, l, from, n));
        n = about(1, 4);
        same("judge(" + s + ", " + l + ", " + from + ", " + n + ")", x.judge(s, l, from, n), m.judge(s, l, from, n));
    }

    private void fillLots() {
        int s = upTo(3), l = upTo(2), from = upTo(4);
        same("sheet", x.sheet(s, l, 20), m.sheet(s, l, 20));
        for (int i = 0; i < 20; i++) {
            int v = about(0, 3) % 1000;
            same("item(" + i + ", " + v + ")", x.item(s, l, i, v), m.item(s, l, i, v));
        }
        int n = about(1, 16);
        same("lots(" + s + ", " + l + ", " + from + ", " + n + ")", x.lots(s, l, from, n), m.lots(s, l, from, n));
    }

    /** The counts as they are due, now and then one of them not, so that a judgement comes to each answer. */
    private void fillCounts() {
        if (m.empty()) {
            return;
        }
        int s = upTo(3), l = upTo(2), from = upTo(4);
        same("sheet", x.sheet(s, l, 24), m.sheet(s, l, 24));
        HallModel.State state = m.now.fresh();
        for (int ballot = 0; ballot < 4 && !state.over(); ballot++) {
            state.ballot();
            for (int name = 0; name < 5; name++) {
                int i = from + 5 * ballot + name;
                int v = state.counts().get(name) + (random.nextInt(40) == 0 ? 1 : 0) + (l == 0 ? 256 : 0);
                same("item(" + i + ", " + v + ")", x.item(s, l, i, v), m.item(s, l, i, v));
            }
        }
        for (int n = 1; n <= 4; n++) {
            same("judge(" + s + ", " + l + ", " + from + ", " + n + ")", x.judge(s, l, from, n), m.judge(s, l, from, n));
        }
    }

    private void ask() {
        int name = about(0, 4), day = about(0, 7), b = about(0, 5), n = about(1, 12), what = about(0, 1), other = about(0, 4);
        switch (random.nextInt(16)) {
            case 0: { int w = about(0, 4); same("block(" + b + ", " + w + ")", x.block(b, w), m.block(b, w)); break; }
            case 1: { int i = about(0, 4); same("order(" + b + ", " + i + ")", x.order(b, i), m.order(b, i)); break; }
            case 2: { same("need(" + day + ")", x.need(day), m.need(day)); break; }
            case 3: { same("count(" + name + ")", x.count(name), m.count(name)); break; }
            case 4: { int w = about(0, 4); same("many(" + w + ")", x.many(w), m.many(w)); break; }
            case 5: { same("ends(" + what + ")", x.ends(what), m.ends(what)); break; }
            case 6: { same("ring(" + what + ")", x.ring(what), m.ring(what)); break; }
            case 7: {
                same("chance(" + name + ", " + n + ", " + what + ")", x.chance(name, n, what), m.chance(name, n, what));
                break;
            }
            case 8: { same("can(" + name + ", " + day + ")", x.can(name, day), m.can(name, day)); break; }
            case 9: { same("makes(" + name + ", " + day + ")", x.makes(name, day), m.makes(name, day)); break; }
            case 10: { same("stops(" + day + ")", x.stops(day), m.stops(day)); break; }
            case 11: { same("rather(" + name + ", " + other + ")", x.rather(name, other), m.rather(name, other)); break; }
            case 12: { same("beats(" + what + ")", x.beats(what), m.beats(what)); break; }
            case 13: { same("waits(" + b + ", " + what + ")", x.waits(b, what), m.waits(b, what)); break; }
            case 14: { int w = about(0, 2); same("aside(" + w + ")", x.aside(w), m.aside(w)); break; }
            default: { same("edge(" + b + ")", x.edge(b), m.edge(b)); }
        }
    }

    /** Short texts typed over and over, till the tape can take no more. */
    private void fillTape() {
        for (int i = 0; i < 12; i++) {
            long w = 0x2061626364652020L;
            int n = about(1, 8);
            same("type(" + w + ", " + n + ")", x.type(w, n), m.type(w, n));
        }
        same("hall()", x.hall(), m.hall());
    }

    private void run() {
        if (random.nextInt(8) > 0) {
            setBar();
            typeText(text());
            fillLots();
        }
        if (random.nextInt(8) == 0) {
            fillTape();
        }
        while (calls < CALLS && wrong == 0) {
            change();
            if (random.nextInt(8) == 0) {
                askAll();
            }
            for (int i = 0; i < 4 && wrong == 0; i++) {
                ask();
            }
        }
    }

    /** Halls whose chances have more states than the class has room for at first. */
    private void wideHall(String text, int p) {
        typeText(text);
        for (int day = 0; day < 8; day++) {
            same("bar", x.bar(day, p, 12), m.bar(day, p, 12));
        }
        for (int name = 0; name < 5; name++) {
            same("chance(" + name + ", 12, 0)", x.chance(name, 12, 0), m.chance(name, 12, 0));
            same("chance(" + name + ", 12, 1)", x.chance(name, 12, 1), m.chance(name, 12, 1));
        }
    }

    public static void main(String[] args) {
        int runs = args.length > 0 ? Integer.parseInt(args[0]) : RUNS;
        for (int seed = 0; seed < runs && wrong == 0; seed++) {
            new ModelTest(seed).run();
        }
        for (int i = 0; i < WIDE.length && wrong == 0; i++) {
            new ModelTest(i).wideHall(WIDE[i], BARS[i]);
        }
        System.out.println(wrong == 0 ? "ModelTest: " + runs + " runs, all as the model" : "ModelTest: not as the model");
        if (wrong != 0) {
            System.exit(1);
        }
    }
}
