/**
 * Refusals, call by call: the first wrong number on each side of a range, of several refusals the one that the call
 * names first, and that a refused call changes nothing: not the hall, not the tape, no sheet, not the image.
 */
public final class RefusalTest {
    private static final int LOW = Integer.MIN_VALUE, HIGH = Integer.MAX_VALUE;
    private static final int BAD = SmokeHall.BAD, NOT = SmokeHall.NOT, FULL = SmokeHall.FULL, NONE = SmokeHall.NONE;
    private static final int NULL = SmokeHall.NULL, CAST = SmokeHall.CAST, INDEX = SmokeHall.INDEX;
    private static final int SIZE = SmokeHall.SIZE;
    private static final int[] NO_NAMES = {-1, 5, LOW, HIGH};
    private static final int[] NO_DAYS = {-1, 8, LOW, HIGH};
    /** The full hall has three blocks. */
    private static final int[] NO_BLOCKS = {-1, 3, 6, LOW, HIGH};
    private static final int[] NO_SHEETS = {-1, 4, LOW, HIGH};
    private static final int[] NO_LANES = {-1, 3, LOW, HIGH};
    private static final int[] NOT_OF_TWO = {-1, 2, LOW, HIGH};

    private interface Call {
        long of(SmokeHall x);
    }

    private interface Setup {
        SmokeHall make();
    }

    /** No hall; sheet 0 is of three bytes, 1 of no shorts, 2 of six ints, 3 is missing; half a text is on the tape. */
    private static SmokeHall empty() {
        SmokeHall x = new SmokeHall();
        x.bar(2, 5, 12);
        x.strike(4, 31);
        x.lot(15, 3);
        addRows(x);
        Checks.type(x, "4f:e");
        return x;
    }

    /** Each item is a lot, as Checks.spent can read no other. */
    private static void addRows(SmokeHall x) {
        Checks.row(x, 0, 0, 1, 2, 3);
        x.sheet(1, 1, 0);
        Checks.row(x, 2, 2, 3, 0, 1, 2, 3, 1);
    }

    private static SmokeHall unkept() {
        SmokeHall x = Checks.of("7k2:abc;6n:ba;5f:c");
        Checks.bars(x, 11, 12);
        x.bar(7, 1, 2);
        x.strike(3, 7);
        x.lot(1, 3);
        x.ballots(3);
        addRows(x);
        Checks.type(x, "4f:e");
        return x;
    }

    private static SmokeHall full() {
        SmokeHall x = Checks.of("2l:de;1k1:ed");
        x.lot(3, 2);
        x.ballots(2);
        x.image();
        Checks.hall(x, "7k2:abc;6n:ba;5f:c");
        Checks.bars(x, 11, 12);
        x.strike(3, 7);
        x.ballots(3);
        addRows(x);
        Checks.type(x, "4f:e");
        return x;
    }

    private static void refused(String call, Setup setup, long want, Call made) {
        SmokeHall x = setup.make();
        Checks.due(call, made.of(x), want);
        boolean same = Checks.spent(x).equals(Checks.spent(setup.make()));
        Checks.due(call + " changes nothing", same ? 1 : 0, 1);
    }

    /** BAD is named first by each call, so it is the same in any hall. */
    private static void bad(String call, Call made) {
        refused(call + ", empty", RefusalTest::empty, BAD, made);
        refused(call, RefusalTest::full, BAD, made);
    }

    private static void inEmpty(String call, long want, Call made) {
        refused(call + ", empty", RefusalTest::empty, want, made);
    }

    private static void inFull(String call, long want, Call made) {
        refused(call, RefusalTest::full, want, made);
    }

    /** What looking at all of an object sees; were it blind to one of these, nothing here would be shown. */
    private static void lookingSees() {
        Call[] changes = {
            x -> x.type('1', 1), x -> x.hall(), x -> x.bar(0, 1, 1), x -> x.strike(0, 5), x -> x.lot(15, 1),
            x -> x.lots(0, 0, 0, 3), x -> x.begin(), x -> x.ballots(1), x -> x.image(), x -> x.restore(),
            x -> x.sheet(3, 0, 0), x -> x.sheet(0, 0, 3), x -> x.sheet(0, 1, 3), x -> x.drop(1), x -> x.item(2, 2, 5, 2)};
        for (int i = 0; i < changes.length; i++) {
            SmokeHall x = full();
            changes[i].of(x);
            Checks.due("change " + i + " is seen", Checks.spent(x).equals(Checks.spent(full())) ? 1 : 0, 0);
        }
        Checks.due("nothing is seen where nothing is changed", Checks.spent(full()).equals(Checks.spent(full())) ? 1 : 0, 1);
    }

    private static void promise2() {
        for (int n : new int[] {0, 9, -1, LOW, HIGH}) {
            bad("type n " + n, x -> x.type(Checks.bytes("abcdabcd"), n));
        }
        for (int wrong : new int[] {0, 31, 127, 128, 255}) {
            for (int place = 0; place < 8; place++) {
                long hole = ~(255L << 8 * place);
                long w = Checks.bytes("abcdabcd") & hole | (long) wrong << 8 * place;
                bad("type " + wrong + " at " + place, x -> x.type(w, 8));
            }
        }
        for (int n = 1; n <= 8; n++) {
            int typed = n;
            refused("type " + n + ", full", RefusalTest::fullTape, FULL, x -> x.type(Checks.bytes("abcdabcd"), typed));
        }
        refused("BAD n ahead of FULL", RefusalTest::fullTape, BAD, x -> x.type(Checks.bytes("abcdabcd"), 9));
        refused("a BAD byte ahead of FULL", RefusalTest::fullTape, BAD, x -> x.type(31, 1));
        refused("not a part of it, if not all", RefusalTest::almostFullTape, FULL, x -> x.type(Checks.bytes("ab"), 2));
    }

    private static SmokeHall almostFullTape() {
        SmokeHall x = Checks.of("7k2:abc;6n:ba;5f:c");
        Checks.type(x, " ".repeat(74) + "12f:a");
        return x;
    }

    private static SmokeHall fullTape() {
        SmokeHall x = Checks.of("7k2:abc;6n:ba;5f:c");
        Checks.type(x, " ".repeat(75) + "12f:a");
        return x;
    }

    private static void promise4To9() {
        for (int b : NO_BLOCKS) {
            bad("block " + b, x -> x.block(b, 0));
            bad("order of block " + b, x -> x.order(b, 0));
        }
        bad("block what", x -> x.block(0, -1));
        bad("block what", x -> x.block(0, 5));
        bad("order below 0", x -> x.order(0, -1));
        inFull("block: no digit", NONE, x -> x.block(1, 2));
        inFull("order: no such", NONE, x -> x.order(1, 2));
        for (int day : NO_DAYS) {
            bad("bar day " + day, x -> x.bar(day, 1, 2));
            bad("need day " + day, x -> x.need(day));
        }
        for (int[] pq : new int[][] {{0, 1}, {2, 1}, {12, 13}, {13, 13}, {1, 13}, {-1, -1}, {1, 0}, {LOW, 12}, {1, HIGH}}) {
            bad("bar " + pq[0] + " / " + pq[1], x -> x.bar(0, pq[0], pq[1]));
        }
        inEmpty("need", NOT, x -> x.need(0));
        for (int name : NO_NAMES) {
            bad("strike " + name, x -> x.strike(name, 1));
        }
        for (int ballot : new int[] {-1, 33, LOW, HIGH}) {
            bad("strike from " + ballot, x -> x.strike(1, ballot));
        }
        for (int i : new int[] {-1, 16, LOW, HIGH}) {
            bad("lot " + i, x -> x.lot(i, 1));
        }
        for (int v : new int[] {-1, 4, LOW, HIGH}) {
            bad("lot v " + v, x -> x.lot(1, v));
        }
    }

    private static void promise10() {
        for (int n : new int[] {0, 17, -1, LOW, HIGH}) {
            bad("lots n " + n, x -> x.lots(0, 0, 0, n));
            bad("lots n " + n + " ahead of NULL", x -> x.lots(3, 0, 0, n));
            bad("lots n " + n + " ahead of CAST, INDEX", x -> x.lots(0, 1, -1, n));
        }
        for (int sheet : NO_SHEETS) {
            bad("lots sheet " + sheet, x -> x.lots(sheet, 0, 0, 1));
        }
        for (int lane : NO_LANES) {
            bad("lots lane " + lane + " ahead of CAST, INDEX", x -> x.lots(0, lane, -1, 1));
            bad("lots lane " + lane + " ahead of NULL", x -> x.lots(3, lane, 0, 1));
        }
        inFull("lots NULL ahead of INDEX", NULL, x -> x.lots(3, 0, -1, 1));
        inFull("lots CAST ahead of INDEX", CAST, x -> x.lots(0, 1, -1, 1));
        inFull("lots CAST ahead of INDEX", CAST, x -> x.lots(0, 2, 3, 1));
        for (int from : new int[] {-1, 2, 3, LOW, HIGH}) {
            inFull("lots from " + from, INDEX, x -> x.lots(0, 0, from, 2));
        }
        inFull("lots of no items", INDEX, x -> x.lots(1, 1, 0, 1));
        for (int wrong : new int[] {-1, 4, LOW, HIGH}) {
            SmokeHall x = full();
            String before = Checks.seen(x);
            x.item(2, 2, 5, wrong);
            Checks.refused(x, "INDEX ahead of " + wrong, before, x.lots(2, 2, 5, 2), INDEX);
            Checks.refused(x, wrong + " is no lot", before, x.lots(2, 2, 5, 1), NOT);
            Checks.refused(x, wrong + " behind five", before, x.lots(2, 2, 0, 6), NOT);
            Checks.due("up to " + wrong, x.lots(2, 2, 0, 5), 5);
        }
    }

    private static void promise11To15() {
        inEmpty("begin", NOT, x -> x.begin());
        inEmpty("ballots", NOT, x -> x.ballots(1));
        inEmpty("ballots", NOT, x -> x.ballots(32));
        for (int n : new int[] {0, 33, -1, LOW, HIGH}) {
            bad("ballots " + n, x -> x.ballots(n));
        }
        for (int name : NO_NAMES) {
            bad("count " + name, x -> x.count(name));
        }
        inEmpty("chosen", NONE, x -> x.chosen());
        inFull("chosen", NONE, x -> x.chosen());
        for (int what : new int[] {-1, 5, LOW, HIGH}) {
            bad("many " + what, x -> x.many(what));
        }
    }

    private static void promise16To18() {
        for (int what : NOT_OF_TWO) {
            bad("ends " + what, x -> x.ends(what));
            bad("ring " + what + " ahead of NOT, for lots", x -> x.ring(what));
            bad("chance what " + what, x -> x.chance(0, 1, what));
        }
        for (int name : NO_NAMES) {
            bad("chance " + name, x -> x.chance(name, 1, 0));
        }
        for (int n : new int[] {0, 13, -1, LOW, HIGH}) {
            bad("chance n " + n, x -> x.chance(0, n, 0));
        }
        for (int what = 0; what < 2; what++) {
            int good = what;
            inEmpty("ends", NOT, x -> x.ends(good));
            inEmpty("ring", NOT, x -> x.ring(good));
            inFull("ring, lots", NOT, x -> x.ring(good));
            inEmpty("chance", NOT, x -> x.chance(4, 12, good));
        }
        refused("ends", RefusalTest::neverEnding, NONE, x -> x.ends(0));
        refused("ends", RefusalTest::neverEnding, NONE, x -> x.ends(1));
    }

    /** Whoever stands aside, waits or changes an order, no name ever has all of them. */
    private static SmokeHall neverEnding() {
        SmokeHall x = Checks.of("7k2:ab;6n:cb;5f:d");
        Checks.bars(x, 1, 1);
        x.ballots(2);
        Checks.type(x, "4f:e");
        return x;
    }

    private static void promise19To23() {
        for (int name : NO_NAMES) {
            bad("can " + name, x -> x.can(name, 0));
            bad("makes " + name, x -> x.makes(name, 0));
            bad("rather " + name, x -> x.rather(name, 0));
            bad("rather than " + name, x -> x.rather(0, name));
        }
        for (int day : NO_DAYS) {
            bad("can day " + day, x -> x.can(0, day));
            bad("makes day " + day, x -> x.makes(0, day));
            bad("stops day " + day, x -> x.stops(day));
        }
        for (int name = 0; name < 5; name++) {
            int one = name;
            bad("rather " + name + " than itself", x -> x.rather(one, one));
        }
        for (int how : NOT_OF_TWO) {
            bad("beats " + how, x -> x.beats(how));
        }
        inEmpty("can: NOT ahead of NONE", NOT, x -> x.can(4, 7));
        inEmpty("makes: NOT ahead of NONE", NOT, x -> x.makes(4, 7));
        inEmpty("stops", NOT, x -> x.stops(7));
        inEmpty("rather", NOT, x -> x.rather(3, 4));
        inEmpty("beats: NOT ahead of NONE", NOT, x -> x.beats(0));
        inEmpty("beats: NOT ahead of NONE", NOT, x -> x.beats(1));
        inFull("can", NONE, x -> x.can(4, 7));
        inFull("makes", NONE, x -> x.makes(4, 7));
        inFull("beats", NONE, x -> x.beats(1));
    }

    private static void promise24To26() {
        for (int b : NO_BLOCKS) {
            bad("waits " + b, x -> x.waits(b, 0));
            bad("edge " + b, x -> x.edge(b));
        }
        for (int what : NOT_OF_TWO) {
            bad("waits what " + what, x -> x.waits(0, what));
        }
        for (int what : new int[] {-1, 3, LOW, HIGH}) {
            bad("aside " + what, x -> x.aside(what));
        }
        for (int what = 0; what < 3; what++) {
            int good = what;
            inEmpty("aside: NOT ahead of NONE", NOT, x -> x.aside(good));
            refused("aside", RefusalTest::neverEnding, NONE, x -> x.aside(good));
        }
        inEmpty("waits: an empty hall has no block", BAD, x -> x.waits(0, 0));
        inEmpty("edge: an empty hall has no block", BAD, x -> x.edge(0));
        refused("edge", RefusalTest::neverEnding, NONE, x -> x.edge(0));
    }

    private static void promise27() {
        for (int n : new int[] {0, 5, -1, LOW, HIGH}) {
            bad("judge n " + n, x -> x.judge(2, 2, 0, n));
            bad("judge n " + n + " ahead of NULL", x -> x.judge(3, 2, 0, n));
            bad("judge n " + n + " ahead of CAST, INDEX", x -> x.judge(0, 2, -1, n));
        }
        for (int sheet : NO_SHEETS) {
            bad("judge sheet " + sheet, x -> x.judge(sheet, 0, 0, 1));
        }
        for (int lane : NO_LANES) {
            bad("judge lane " + lane + " ahead of CAST, INDEX", x -> x.judge(0, lane, -1, 1));
            bad("judge lane " + lane + " ahead of NULL", x -> x.judge(3, lane, 0, 1));
        }
        Setup[] both = {RefusalTest::empty, RefusalTest::full};
        for (Setup setup : both) {
            refused("judge NULL ahead of INDEX, NOT", setup, NULL, x -> x.judge(3, 0, -1, 1));
            refused("judge CAST ahead of INDEX, NOT", setup, CAST, x -> x.judge(0, 1, -1, 1));
            for (int from : new int[] {-1, 2, 6, LOW, HIGH}) {
                refused("judge from " + from + " ahead of NOT", setup, INDEX, x -> x.judge(2, 2, from, 1));
            }
            refused("judge of two", setup, INDEX, x -> x.judge(2, 2, 0, 2));
            refused("judge of no items", setup, INDEX, x -> x.judge(1, 1, 0, 1));
        }
        inEmpty("judge", NOT, x -> x.judge(2, 2, 1, 1));
    }

    private static void promise29To32() {
        inEmpty("restore", NONE, x -> x.restore());
        refused("restore", RefusalTest::unkept, NONE, x -> x.restore());
        for (int sheet : NO_SHEETS) {
            bad("sheet " + sheet, x -> x.sheet(sheet, 0, 1));
            bad("sheet " + sheet + " ahead of SIZE", x -> x.sheet(sheet, 0, -1));
            bad("drop " + sheet, x -> x.drop(sheet));
            bad("item of sheet " + sheet, x -> x.item(sheet, 0, 0, 1));
        }
        for (int lane : NO_LANES) {
            bad("sheet lane " + lane, x -> x.sheet(0, lane, 1));
            bad("sheet lane " + lane + " ahead of SIZE", x -> x.sheet(0, lane, -1));
            bad("item lane " + lane + " ahead of CAST, INDEX", x -> x.item(0, lane, -1, 1));
            bad("item lane " + lane + " ahead of NULL", x -> x.item(3, lane, 0, 1));
        }
        bad("sheet of 25", x -> x.sheet(0, 0, 25));
        bad("sheet of the most", x -> x.sheet(0, 0, HIGH));
        inFull("sheet of -1", SIZE, x -> x.sheet(0, 0, -1));
        inFull("sheet of the least", SIZE, x -> x.sheet(3, 2, LOW));
        inFull("drop NULL", NULL, x -> x.drop(3));
        inFull("item NULL ahead of INDEX", NULL, x -> x.item(3, 0, -1, 1));
        inFull("item CAST ahead of INDEX", CAST, x -> x.item(0, 1, -1, 1));
        inFull("item CAST", CAST, x -> x.item(2, 0, 0, 1));
        for (int i : new int[] {-1, 3, 24, LOW, HIGH}) {
            inFull("item " + i, INDEX, x -> x.item(0, 0, i, 1));
        }
        inFull("item of none", INDEX, x -> x.item(1, 1, 0, 1));
    }

    public static void main(String[] args) {
        lookingSees();
        promise2();
        promise4To9();
        promise10();
        promise11To15();
        promise16To18();
        promise19To23();
        promise24To26();
        promise27();
        promise29To32();
        Checks.finish("RefusalTest");
    }
}
