import java.math.BigInteger;
import java.util.ArrayList;
import java.util.Arrays;
import java.util.HashMap;
import java.util.HashSet;
import java.util.List;
import java.util.Map;
import java.util.Set;

/**
 * The document told a second time, as plainly as it goes and with no eye on cost, to judge the class by.
 * Lists of names and fractions of big numbers stand where the class has bits, codes and rows.
 */
final class HallModel {
    static final int BAD = -1, NOT = -2, FULL = -3, NONE = -4, NULL = -11, CAST = -12, INDEX = -13, SIZE = -14;

    static final class Block {
        int members;
        char move;
        int digit = -1;
        List<Integer> order = new ArrayList<>();

        Block copy() {
            Block b = new Block();
            b.members = members;
            b.move = move;
            b.digit = digit;
            b.order = new ArrayList<>(order);
            return b;
        }
    }

    /** All that an image keeps. A written nothing is null. */
    static final class State {
        List<Block> blocks = new ArrayList<>();
        int[][] bars = new int[8][];
        int[] struck = new int[5];
        int[] lots = new int[16];
        int ballots;
        int used;
        Integer chosen;
        List<Integer> wrote = new ArrayList<>();
        int waiter = -1;
        int wait;

        State() {
            for (int d = 0; d < 8; d++) {
                bars[d] = new int[] {2, 3};
            }
            Arrays.fill(struck, 32);
        }

        State copy() {
            State s = new State();
            for (Block b : blocks) {
                s.blocks.add(b.copy());
            }
            for (int d = 0; d < 8; d++) {
                s.bars[d] = bars[d].clone();
            }
            s.struck = struck.clone();
            s.lots = lots.clone();
            s.ballots = ballots;
            s.used = used;
            s.chosen = chosen;
            s.wrote = new ArrayList<>(wrote);
            return s;
        }

        State fresh() {
            State s = copy();
            s.restart();
            return s;
        }

        void restart() {
            ballots = 0;
            used = 0;
            chosen = null;
            wrote = new ArrayList<>();
            for (int i = 0; i < blocks.size(); i++) {
                wrote.add(null);
            }
        }

        int members() {
            int sum = 0;
            for (Block b : blocks) {
                sum += b.members;
            }
            return sum;
        }

        int need(int day) {
            int least = 0;
            while (least * bars[day][1] < members() * bars[day][0]) {
                least++;
            }
            return least;
        }

        Map<Integer, Integer> counts() {
            Map<Integer, Integer> counts = new HashMap<>();
            for (int n = 0; n < 5; n++) {
                counts.put(n, 0);
            }
            for (int b = 0; b < blocks.size(); b++) {
                if (wrote.get(b) != null) {
                    counts.merge(wrote.get(b), blocks.get(b).members, Integer::sum);
                }
            }
            return counts;
        }

        boolean alive(Integer name, int ballot) {
            return name != null && ballot < struck[name];
        }

        Integer last() {
            List<Integer> with = new ArrayList<>();
            Map<Integer, Integer> counts = counts();
            for (int n = 0; n < 5; n++) {
                if (counts.get(n) > 0) {
                    with.add(n);
                }
            }
            if (with.size() < 2) {
                return null;
            }
            with.sort((x, y) -> counts.get(x).equals(counts.get(y)) ? x - y : counts.get(x) - counts.get(y));
            return with.get(0);
        }

        List<Integer> aliveOf(int b, int ballot) {
            List<Integer> list = new ArrayList<>();
            for (Integer n : blocks.get(b).order) {
                if (alive(n, ballot)) {
                    list.add(n);
                }
            }
            return list;
        }

        Integer firm(int b, int ballot) {
            List<Integer> list = aliveOf(b, ballot);
            return list.isEmpty() ? null : list.get(0);
        }

        Integer lead(int b, int ballot) {
            Integer best = null;
            for (Integer n : aliveOf(b, ballot)) {
                if (best == null || counts().get(n) > counts().get(best)) {
                    best = n;
                }
            }
            return best;
        }

        Integer next(int b, int ballot) {
            Integer mine = wrote.get(b);
            if (mine == null) {
                return firm(b, ballot);
            }
            if (alive(mine, ballot) && !mine.equals(last())) {
                return mine;
            }
            List<Integer> order = blocks.get(b).order;
            for (Integer n : order.subList(order.indexOf(mine) + 1, order.size())) {
                if (alive(n, ballot)) {
                    return n;
                }
            }
            return alive(mine, ballot) ? mine : firm(b, ballot);
        }

        Integer follow(int b, int ballot) {
            Integer its = wrote.get(blocks.get(b).digit);
            return alive(its, ballot) && blocks.get(b).order.contains(its) ? its : firm(b, ballot);
        }

        /** What all write in a ballot; the lots of those that use them are given, one behind the other. */
        List<Integer> writings(int ballot, int aliveIn, List<Integer> given) {
            List<Integer> all = new ArrayList<>();
            int taken = 0;
            for (int b = 0; b < blocks.size(); b++) {
                int w = b == waiter ? wait : 0;
                Block block = blocks.get(b);
                if (ballot < w) {
                    all.add(null);
                } else if (ballot == w || block.move == 'f') {
                    all.add(firm(b, aliveIn));
                } else if (block.move == 'l') {
                    all.add(lead(b, aliveIn));
                } else if (block.move == 'n') {
                    all.add(next(b, aliveIn));
                } else if (block.move == 'o') {
                    all.add(follow(b, aliveIn));
                } else {
                    all.add(given.get(taken) < block.digit ? lead(b, aliveIn) : firm(b, aliveIn));
                    taken++;
                }
            }
            return all;
        }

        int lotsWanted(int ballot) {
            int sum = 0;
            for (int b = 0; b < blocks.size(); b++) {
                if (blocks.get(b).move == 'k' && ballot > (b == waiter ? wait : 0)) {
                    sum++;
                }
            }
            return sum;
        }

        boolean over() {
            return chosen != null || ballots == 32;
        }

        void ballot() {
            List<Integer> given = new ArrayList<>();
            for (int i = 0, n = lotsWanted(ballots); i < n; i++) {
                given.add(lots[used % 16]);
                used++;
            }
            ballotWith(given);
        }

        void ballotWith(List<Integer> given) {
            wrote = writings(ballots, ballots, given);
            Map<Integer, Integer> counts = counts();
            int need = need(ballots / 4);
            for (int n = 0; n < 5; n++) {
                if (counts.get(n) >= need && (chosen == null || counts.get(n) > counts.get(chosen))) {
                    chosen = n;
                }
            }
            ballots++;
        }

        State run() {
            while (!over()) {
                ballot();
            }
            return this;
        }

        int end() {
            return chosen == null ? 1000 : ballots - 1;
        }
    }

    static final class Row {
        int lane;
        int[] items;
    }

    StringBuilder tape = new StringBuilder();
    State now = new State();
    State image;
    Row[] sheets = new Row[4];

    static boolean in(int v, int least, int most) {
        return least <= v && v <= most;
    }

    boolean empty() {
        return now.blocks.isEmpty();
    }

    boolean isBlock(int b) {
        return in(b, 0, now.blocks.size() - 1);
    }

    static int or(Integer name) {
        return name == null ? NONE : name;
    }

    int type(long w, int n) {
        if (!in(n, 1, 8)) {
            return BAD;
        }
        byte[] all = BigInteger.valueOf(w).and(BigInteger.ONE.shiftLeft(8 * n).subtract(BigInteger.ONE)).toByteArray();
        StringBuilder text = new StringBuilder();
        for (int i = all.length - n; i < all.length; i++) {
            int sign = i < 0 ? 0 : all[i] & 255;
            if (!in(sign, 32, 126)) {
                return BAD;
            }
            text.append((char) sign);
        }
        if (tape.length() + n > 80) {
            return FULL;
        }
        tape.append(text);
        return tape.length();
    }

    /** A walk from sign to sign: what may come next is a set of kinds, m M d : N and so on. */
    int hall() {
        String text = tape.toString();
        tape.setLength(0);
        List<Block> blocks = new ArrayList<>();
        List<Integer> digitPlaces = new ArrayList<>();
        String state = "number";
        String number = "";
        int numberPlace = 0;
        int lotteries = 0;
        Block block = null;
        for (int i = 0; i <= text.length(); i++) {
            char c = i < text.length() ? text.charAt(i) : '$';
            if (state.equals("digits") && (c < '0' || c > '9')) {
                BigInteger value = new BigInteger(number);
                if (value.signum() == 0 || value.compareTo(BigInteger.valueOf(20)) > 0) {
                    return -20 - numberPlace;
                }
                block.members = value.intValue();
                state = "move";
            }
            if (c == ' ') {
                continue;
            }
            if (state.equals("number") && c >= '0' && c <= '9') {
                block = new Block();
                number = "" + c;
                numberPlace = i;
                state = "digits";
            } else if (state.equals("digits")) {
                number += c;
            } else if (state.equals("move") && "fnlok".indexOf(c) >= 0 && !(c == 'k' && lotteries == 2)) {
                lotteries += c == 'k' ? 1 : 0;
                block.move = c;
                state = c == 'o' || c == 'k' ? "digit" : "colon";
                digitPlaces.add(-1);
            } else if (state.equals("digit") && (block.move == 'o' ? "012345" : "123").indexOf(c) >= 0) {
                block.digit = c - '0';
                digitPlaces.set(digitPlaces.size() - 1, i);
                state = "colon";
            } else if (state.equals("colon") && c == ':') {
                state = "name";
            } else if (state.startsWith("name") && "abcde".indexOf(c) >= 0 && !block.order.contains(c - 'a')) {
                block.order.add(c - 'a');
                state = "names";
            } else if (state.equals("names") && c == ';' && blocks.size() < 5) {
                blocks.add(block);
                state = "number";
            } else if (state.equals("names") && i == text.length()) {
                blocks.add(block);
            } else {
                return -20 - i;
            }
        }
        for (int b = 0; b < blocks.size(); b++) {
            if (blocks.get(b).move == 'o' && blocks.get(b).digit >= blocks.size()) {
                return -20 - digitPlaces.get(b);
            }
        }
        now.blocks = blocks;
        now.restart();
        return blocks.size();
    }

    int block(int b, int what) {
        if (!isBlock(b) || !in(what, 0, 4)) {
            return BAD;
        }
        Block block = now.blocks.get(b);
        switch (what) {
            case 0: return block.members;
            case 1: return "fnlok".indexOf(block.move);
            case 2: return block.digit < 0 ? NONE : block.digit;
            case 3: return block.order.size();
            default: return or(now.wrote.get(b));
        }
    }

    int order(int b, int i) {
        if (!isBlock(b) || i < 0) {
            return BAD;
        }
        List<Integer> order = now.blocks.get(b).order;
        return i < order.size() ? order.get(i) : NONE;
    }

    int bar(int day, int p, int q) {
        if (!in(day, 0, 7) || !(1 <= p && p <= q && q <= 12)) {
            return BAD;
        }
        int was = 12 * now.bars[day][0] + now.bars[day][1];
        now.bars[day] = new int[] {p, q};
        return was;
    }

    int need(int day) {
        return !in(day, 0, 7) ? BAD : empty() ? NOT : now.need(day);
    }

    int strike(int name, int ballot) {
        if (!in(name, 0, 4) || !in(ballot, 0, 32)) {
            return BAD;
        }
        int was = now.struck[name];
        now.struck[name] = ballot;
        return was;
    }

    int lot(int i, int v) {
        if (!in(i, 0, 15) || !in(v, 0, 3)) {
            return BAD;
        }
        int was = now.lots[i];
        now.lots[i] = v;
        return was;
    }

    int row(int sheet, int lane, int from, int n) {
        if (!in(sheet, 0, 3) || !in(lane, 0, 2)) {
            return BAD;
        }
        if (sheets[sheet] == null) {
            return NULL;
        }
        if (sheets[sheet].lane != lane) {
            return CAST;
        }
        return from < 0 || (long) from + n > sheets[sheet].items.length ? INDEX : 0;
    }

    int lots(int sheet, int lane, int from, int n) {
        if (!in(n, 1, 16)) {
            return BAD;
        }
        if (row(sheet, lane, from, n) != 0) {
            return row(sheet, lane, from, n);
        }
        int[] taken = Arrays.copyOfRange(sheets[sheet].items, from, from + n);
        for (int v : taken) {
            if (!in(v, 0, 3)) {
                return NOT;
            }
        }
        System.arraycopy(taken, 0, now.lots, 0, n);
        return n;
    }

    int begin() {
        if (empty()) {
            return NOT;
        }
        int were = now.ballots;
        now.restart();
        return were;
    }

    int ballots(int n) {
        if (!in(n, 1, 32)) {
            return BAD;
        }
        if (empty()) {
            return NOT;
        }
        for (int i = 0; i < n && !now.over(); i++) {
            now.ballot();
        }
        return now.ballots;
    }

    int count(int name) {
        return in(name, 0, 4) ? now.counts().get(name) : BAD;
    }

    int chosen() {
        return or(now.chosen);
    }

    int many(int what) {
        switch (what) {
            case 0: return now.blocks.size();
            case 1: return now.members();
            case 2: return now.ballots;
            case 3: return now.used;
            case 4:
                int sum = 0;
                for (int n = 0; n < 5; n++) {
                    sum += now.alive(n, now.ballots == 32 ? 31 : now.ballots) ? 1 : 0;
                }
                return sum;
            default: return BAD;
        }
    }

    int ends(int what) {
        if (!in(what, 0, 1)) {
            return BAD;
        }
        if (empty()) {
            return NOT;
        }
        State s = now.fresh().run();
        return s.chosen == null ? NONE : what == 0 ? s.chosen : s.ballots - 1;
    }

    int ring(int what) {
        if (!in(what, 0, 1)) {
            return BAD;
        }
        if (empty() || now.blocks.stream().anyMatch(b -> b.move == 'k')) {
            return NOT;
        }
        State s = now.copy();
        int aliveIn = now.ballots == 32 ? 31 : now.ballots;
        List<List<Integer>> seen = new ArrayList<>();
        int ballot = now.ballots;
        while (!seen.contains(s.wrote)) {
            seen.add(s.wrote);
            s.wrote = s.writings(ballot, aliveIn, null);
            ballot++;
        }
        int tail = seen.indexOf(s.wrote);
        return what == 0 ? tail : seen.size() - tail;
    }

    /** Weights of the ways in which a name comes, over sixteenths of a ballot, each way walked, like states walked once. */
    private BigInteger ways(State s, int name, int left, Map<String, BigInteger> memo) {
        BigInteger whole = BigInteger.valueOf(16).pow(left);
        if (s.chosen != null) {
            return s.chosen == name ? whole : BigInteger.ZERO;
        }
        if (left == 0 || s.over()) {
            return BigInteger.ZERO;
        }
        String key = left + " " + s.wrote;
        if (memo.containsKey(key)) {
            return memo.get(key);
        }
        BigInteger sum = BigInteger.ZERO;
        for (int x = 0; x < 4; x++) {
            for (int y = 0; y < 4; y++) {
                State t = new State();
                t.blocks = s.blocks;
                t.bars = s.bars;
                t.struck = s.struck;
                t.ballots = s.ballots;
                t.wrote = s.wrote;
                t.ballotWith(List.of(x, y));
                sum = sum.add(ways(t, name, left - 1, memo));
            }
        }
        memo.put(key, sum);
        return sum;
    }

    long chance(int name, int n, int what) {
        if (!in(name, 0, 4) || !in(n, 1, 12) || !in(what, 0, 1)) {
            return BAD;
        }
        if (empty()) {
            return NOT;
        }
        BigInteger above = ways(now, name, n, new HashMap<>());
        BigInteger below = BigInteger.valueOf(16).pow(n);
        BigInteger common = above.gcd(below);
        return (what == 0 ? above : below).divide(common).longValueExact();
    }

    private Set<Integer> bearers(int name) {
        Set<Integer> set = new HashSet<>();
        for (int b = 0; b < now.blocks.size(); b++) {
            if (now.blocks.get(b).order.contains(name)) {
                set.add(b);
            }
        }
        return set;
    }

    private static int bits(Set<Integer> set) {
        int bits = 0;
        for (int b : set) {
            bits += 1 << b;
        }
        return bits;
    }

    private int membersOf(Set<Integer> set) {
        int sum = 0;
        for (int b : set) {
            sum += now.blocks.get(b).members;
        }
        return sum;
    }

    private List<Set<Integer>> allSets() {
        List<Set<Integer>> all = new ArrayList<>();
        all.add(new HashSet<>());
        for (int b = 0; b < now.blocks.size(); b++) {
            for (Set<Integer> set : new ArrayList<>(all)) {
                Set<Integer> more = new HashSet<>(set);
                more.add(b);
                all.add(more);
            }
        }
        return all;
    }

    int can(int name, int day) {
        if (!in(name, 0, 4) || !in(day, 0, 7)) {
            return BAD;
        }
        if (empty()) {
            return NOT;
        }
        return membersOf(bearers(name)) >= now.need(day) ? bits(bearers(name)) : NONE;
    }

    private int best(List<Set<Integer>> sets) {
        sets.sort((x, y) -> membersOf(x) != membersOf(y) ? membersOf(x) - membersOf(y) : bits(x) - bits(y));
        return sets.isEmpty() ? NONE : bits(sets.get(0));
    }

    int makes(int name, int day) {
        if (!in(name, 0, 4) || !in(day, 0, 7)) {
            return BAD;
        }
        if (empty()) {
            return NOT;
        }
        List<Set<Integer>> sets = allSets();
        sets.removeIf(s -> !bearers(name).containsAll(s) || membersOf(s) < now.need(day));
        return best(sets);
    }

    int stops(int day) {
        if (!in(day, 0, 7)) {
            return BAD;
        }
        if (empty()) {
            return NOT;
        }
        List<Set<Integer>> sets = allSets();
        sets.removeIf(s -> now.members() - membersOf(s) >= now.need(day));
        return best(sets);
    }

    int rather(int a, int b) {
        if (!in(a, 0, 4) || !in(b, 0, 4) || a == b) {
            return BAD;
        }
        if (empty()) {
            return NOT;
        }
        int sum = 0;
        for (Block block : now.blocks) {
            for (int name : block.order) {
                if (name == a) {
                    sum += block.members;
                }
                if (name == a || name == b) {
                    break;
                }
            }
        }
        return sum;
    }

    int beats(int how) {
        if (!in(how, 0, 1)) {
            return BAD;
        }
        if (empty()) {
            return NOT;
        }
        for (int a = 0; a < 5; a++) {
            int beaten = 0;
            for (int b = 0; b < 5; b++) {
                if (a != b && (how == 0 ? rather(a, b) > rather(b, a) : rather(a, b) >= now.need(0))) {
                    beaten++;
                }
            }
            if (beaten == 4) {
                return a;
            }
        }
        return NONE;
    }

    int waits(int b, int what) {
        if (!isBlock(b) || !in(what, 0, 1)) {
            return BAD;
        }
        int best = -1;
        int worth = 10;
        for (int w = 0; w <= 4; w++) {
            State s = now.fresh();
            s.waiter = b;
            s.wait = w;
            s.run();
            int place = s.chosen == null ? -1 : s.blocks.get(b).order.indexOf(s.chosen);
            int its = place < 0 ? 9 : place;
            if (its < worth) {
                worth = its;
                best = w;
            }
        }
        return what == 0 ? best : worth;
    }

    int aside(int what) {
        if (!in(what, 0, 2)) {
            return BAD;
        }
        if (empty()) {
            return NOT;
        }
        int soonest = now.fresh().run().end();
        int[] best = null;
        for (int ballot = 0; ballot <= 7; ballot++) {
            for (int name = 0; name < 5; name++) {
                State s = now.fresh();
                s.struck[name] = Math.min(s.struck[name], ballot);
                int end = s.run().end();
                if (end < soonest) {
                    soonest = end;
                    best = new int[] {name, ballot, end};
                }
            }
        }
        return best == null ? NONE : best[what];
    }

    int edge(int b) {
        if (!isBlock(b)) {
            return BAD;
        }
        Integer own = now.fresh().run().chosen;
        for (int i = 0; i + 1 < now.blocks.get(b).order.size(); i++) {
            State s = now.fresh();
            java.util.Collections.swap(s.blocks.get(b).order, i, i + 1);
            if (!java.util.Objects.equals(own, s.run().chosen)) {
                return i;
            }
        }
        return NONE;
    }

    int judge(int sheet, int lane, int from, int n) {
        if (!in(n, 1, 4)) {
            return BAD;
        }
        if (row(sheet, lane, from, 5 * n) != 0) {
            return row(sheet, lane, from, 5 * n);
        }
        if (empty()) {
            return NOT;
        }
        State s = now.fresh();
        for (int i = 0; i < n; i++) {
            if (s.over()) {
                return i;
            }
            s.ballot();
            for (int name = 0; name < 5; name++) {
                if (s.counts().get(name) != sheets[sheet].items[from + 5 * i + name]) {
                    return i;
                }
            }
        }
        return NONE;
    }

    int image() {
        image = now.copy();
        return 1;
    }

    int restore() {
        if (image == null) {
            return NONE;
        }
        now = image.copy();
        return 1;
    }

    int sheet(int sheet, int lane, int n) {
        if (!in(sheet, 0, 3) || !in(lane, 0, 2) || n > 24) {
            return BAD;
        }
        if (n < 0) {
            return SIZE;
        }
        sheets[sheet] = new Row();
        sheets[sheet].lane = lane;
        sheets[sheet].items = new int[n];
        return n;
    }

    int drop(int sheet) {
        if (!in(sheet, 0, 3)) {
            return BAD;
        }
        if (sheets[sheet] == null) {
            return NULL;
        }
        int had = sheets[sheet].items.length;
        sheets[sheet] = null;
        return had;
    }

    int item(int sheet, int lane, int i, int v) {
        if (row(sheet, lane, i, 1) != 0) {
            return row(sheet, lane, i, 1);
        }
        sheets[sheet].items[i] = lane == 0 ? (byte) v : lane == 1 ? (short) v : v;
        return 1;
    }
}
