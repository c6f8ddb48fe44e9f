/** Promises 1 to 15: the hall. Each answer is worked out by hand from the document. */
public final class HallTest {
    private static final int LOW = Integer.MIN_VALUE, HIGH = Integer.MAX_VALUE;
    private static final int[] OUT_OF_NAMES = {-1, 5, LOW, HIGH};
    private static final int[] OUT_OF_DAYS = {-1, 8, LOW, HIGH};

    private static void due(String call, long got, long want) {
        Checks.due(call, got, want);
    }

    private static void promise1() {
        SmokeHall x = new SmokeHall();
        for (int what = 0; what < 4; what++) {
            due("new: many", x.many(what), 0);
        }
        due("new: alive", x.many(4), 5);
        due("new: chosen", x.chosen(), SmokeHall.NONE);
        due("new: restore", x.restore(), SmokeHall.NONE);
        for (int i = 0; i < 5; i++) {
            due("new: count", x.count(i), 0);
            due("new: struck", x.strike(i, 32), 32);
        }
        for (int day = 0; day < 8; day++) {
            due("new: bar", x.bar(day, 2, 3), 27);
        }
        for (int i = 0; i < 16; i++) {
            due("new: lot", x.lot(i, 0), 0);
        }
        for (int i = 0; i < 4; i++) {
            due("new: sheet", x.drop(i), SmokeHall.NULL);
        }
        due("new: tape", x.type('f', 1), 1);
    }

    private static void promise2() {
        SmokeHall x = new SmokeHall();
        for (int n : new int[] {0, 9, -1, LOW, HIGH}) {
            due("type n", x.type(Checks.bytes("abcdefgh"), n), SmokeHall.BAD);
        }
        due("type 31", x.type(31, 1), SmokeHall.BAD);
        due("type 127", x.type(127, 1), SmokeHall.BAD);
        due("type 255", x.type(-1, 1), SmokeHall.BAD);
        due("type 0 above", x.type('a', 2), SmokeHall.BAD);
        due("type 7 within", x.type(0x610762L, 3), SmokeHall.BAD);
        due("type of the lowest alone", x.type(-256 | '7', 1), 1);
        due("type 32", x.type(32, 1), 2);
        due("type 126", x.type(126, 1), 3);
        due("the 126 can't stand", x.hall(), -22);
        due("highest first", x.type(Checks.bytes("12f:ab"), 6), 6);
        due("hall", x.hall(), 1);
        due("its members", x.block(0, 0), 12);
        for (int i = 1; i <= 9; i++) {
            due("type 8", x.type(Checks.bytes("        "), 8), 8 * i);
        }
        due("type 7", x.type(Checks.bytes("       "), 7), 79);
        due("two are too many", x.type(Checks.bytes("1f"), 2), SmokeHall.FULL);
        due("BAD goes ahead of FULL", x.type(7, 2), SmokeHall.BAD);
        due("one fits", x.type(' ', 1), 80);
        due("full", x.type(' ', 1), SmokeHall.FULL);
        due("80 blanks", x.hall(), -100);
    }

    private static void good(String text, int blocks) {
        due("'" + text + "'", Checks.hall(new SmokeHall(), text), blocks);
    }

    private static void fault(String text, int place) {
        SmokeHall x = Checks.of("3f:ab;4n:ba");
        x.ballots(2);
        String before = Checks.seen(x);
        Checks.refused(x, "'" + text + "'", before, Checks.hall(x, text), -20 - place);
        due("'" + text + "' leaves no tape", x.type('1', 1), 1);
    }

    private static void promise3() {
        good("1f:a", 1);
        good("20k3:edcba", 1);
        good("1o0:a", 1);
        good("1o1:a;1f:b", 2);
        good("1o5:a;1f:a;1f:a;1f:a;1f:a;1f:a", 6);
        good("  7  f  :  a  b  ;  6 o 0 : b  ", 2);
        good("1k1:a;1k3:a;1f:a", 3);
        good("007f:a", 1);
        good("0000000000000000000000000000020f:a", 1);
        faultsOfOneClause();
        faultsOfMore();
        SmokeHall x = Checks.of("3k1:ab;4k2:ba");
        due("each text has two k", Checks.hall(x, "2k1:c;3k3:c;1f:d"), 3);
        x = Checks.of("3f:ab;4n:ba;2k1:c");
        x.bar(1, 1, 2);
        x.strike(3, 4);
        x.lot(5, 3);
        x.ballots(3);
        due("a hall", Checks.hall(x, "9l:cde"), 1);
        due("no ballot yet", x.many(2), 0);
        due("first lot", x.many(3), 0);
        due("nothing written", x.block(0, 4), SmokeHall.NONE);
        due("no count", x.count(2), 0);
        due("the old block is gone", x.block(1, 0), SmokeHall.BAD);
        due("bars stay", x.bar(1, 2, 3), 14);
        due("strikes stay", x.strike(3, 32), 4);
        due("lots stay", x.lot(5, 0), 3);
    }

    private static void faultsOfOneClause() {
        fault("", 0);
        fault("   ", 3);
        fault("f", 0);
        fault(" x", 1);
        fault("0f:a", 0);
        fault("21f:a", 0);
        fault(" 99999999999999999999f:a", 1);
        fault("000f:a", 0);
        fault("30", 0);
        fault("3", 1);
        fault("3 ", 2);
        fault("1 2f:a", 2);
        fault("-3f:a", 0);
        fault("3F:a", 1);
        fault("3m:a", 1);
        fault("3:a", 1);
        fault("3k:", 2);
        fault("3f", 2);
        fault("3fa", 2);
        fault("3f3:a", 2);
        fault("3f:", 3);
        fault("3f: ", 4);
        fault("3f:f", 3);
        fault("3f:A", 3);
        fault("3f:;", 3);
        fault("3f:aa", 4);
        fault("3f:a b a", 7);
        fault("3f:abcdee", 8);
        fault("3f:ab,", 5);
        fault("3o", 2);
        fault("3o:a", 2);
        fault("3o6:a", 2);
        fault("3o00:a", 3);
        fault("3k0:a", 2);
        fault("3k4:a", 2);
        fault("3k:a", 2);
        fault("3k11:a", 3);
        fault("3k 1 2:a", 5);
    }

    private static void faultsOfMore() {
        fault("3f:a;", 5);
        fault("3f:a; ", 6);
        fault("3f:a;;", 5);
        fault(";3f:a", 0);
        fault("3f:a;25f:a", 5);
        fault("1k1:a;1k1:a;1k1:a", 13);
        fault("1k1:a;1k1:a;1f:a;1k", 18);
        fault("1f:a;1f:a;1f:a;1f:a;1f:a;1f:a;", 29);
        fault("1f:a;1f:a;1f:a;1f:a;1f:a;1f:a ;1f:a", 30);
        fault("1o1:a", 2);
        fault("1o2:a;1f:b", 2);
        fault("1f:a;1 o 4:b;1o5:c", 9);
        fault("1o3:a;1f:b;", 11);
        fault("1o3:a;1f:bb", 10);
    }

    private static void promise4And5() {
        SmokeHall x = Checks.of("7f:ab;6n:ba;5l:c;4o0:edcba;20k3:d");
        int[] members = {7, 6, 5, 4, 20};
        int[] digits = {-4, -4, -4, 0, 3};
        int[] sizes = {2, 2, 1, 5, 1};
        for (int b = 0; b < 5; b++) {
            due("members", x.block(b, 0), members[b]);
            due("move", x.block(b, 1), b);
            due("digit", x.block(b, 2), digits[b]);
            due("names", x.block(b, 3), sizes[b]);
            due("wrote", x.block(b, 4), SmokeHall.NONE);
        }
        for (int i = 0; i < 5; i++) {
            due("order", x.order(3, i), 4 - i);
        }
        due("order ends", x.order(0, 2), SmokeHall.NONE);
        due("no such place", x.order(3, 5), SmokeHall.NONE);
        due("no such place", x.order(3, HIGH), SmokeHall.NONE);
        for (int i : new int[] {-1, -2, -5, LOW}) {
            for (int b = 0; b < 5; b++) {
                due("a place below 0", x.order(b, i), SmokeHall.BAD);
            }
            due("a place below 0, no block", x.order(5, i), SmokeHall.BAD);
            due("a place below 0, an empty hall", new SmokeHall().order(0, i), SmokeHall.BAD);
        }
        for (int b : new int[] {-1, 5, 6, LOW, HIGH}) {
            due("no block", x.block(b, 0), SmokeHall.BAD);
            due("no block", x.order(b, 0), SmokeHall.BAD);
        }
        for (int w : new int[] {-1, 5, LOW, HIGH}) {
            due("no what", x.block(0, w), SmokeHall.BAD);
        }
        x.strike(2, 0);
        x.ballots(1);
        due("wrote a", x.block(0, 4), 0);
        due("wrote nothing, as c is struck", x.block(2, 4), SmokeHall.NONE);
        due("wrote e", x.block(3, 4), 4);
    }

    private static void promise6And7() {
        SmokeHall x = new SmokeHall();
        due("need of an empty hall", x.need(0), SmokeHall.NOT);
        due("day goes first", x.need(8), SmokeHall.BAD);
        due("bar", x.bar(0, 12, 12), 27);
        due("bar", x.bar(0, 1, 12), 156);
        due("bar", x.bar(0, 1, 1), 24);
        due("bar", x.bar(7, 5, 11), 27);
        due("hall", Checks.hall(x, "20f:a;3f:b"), 2);
        String before = Checks.seen(x);
        for (int day : OUT_OF_DAYS) {
            Checks.refused(x, "bar day", before, x.bar(day, 1, 2), SmokeHall.BAD);
            due("need day", x.need(day), SmokeHall.BAD);
        }
        int[][] wrong = {{0, 3}, {4, 3}, {1, 13}, {13, 13}, {-1, 3}, {LOW, HIGH}, {1, 0}, {1, HIGH}, {1, LOW}};
        for (int[] pq : wrong) {
            Checks.refused(x, "bar p q", before, x.bar(3, pq[0], pq[1]), SmokeHall.BAD);
        }
        due("need 1/1", x.need(0), 23);
        due("need 2/3", x.need(1), 16);
        due("need 5/11", x.need(7), 11);
        x.bar(2, 1, 12);
        due("need 1/12", x.need(2), 2);
        x.bar(2, 12, 12);
        due("need 12/12", x.need(2), 23);
    }

    private static void promise8To10() {
        SmokeHall x = Checks.of("3k2:ab;4f:ba");
        due("strike", x.strike(4, 0), 32);
        due("strike", x.strike(4, 31), 0);
        due("strike", x.strike(4, 32), 31);
        due("lot", x.lot(0, 3), 0);
        due("lot", x.lot(15, 2), 0);
        due("lot", x.lot(15, 1), 2);
        x.sheet(0, 2, 3);
        String before = Checks.seen(x);
        for (int name : OUT_OF_NAMES) {
            Checks.refused(x, "strike name", before, x.strike(name, 1), SmokeHall.BAD);
        }
        for (int ballot : new int[] {-1, 33, LOW, HIGH}) {
            Checks.refused(x, "strike ballot", before, x.strike(0, ballot), SmokeHall.BAD);
        }
        for (int i : new int[] {-1, 16, LOW, HIGH}) {
            Checks.refused(x, "lot i", before, x.lot(i, 1), SmokeHall.BAD);
        }
        for (int v : new int[] {-1, 4, LOW, HIGH}) {
            Checks.refused(x, "lot v", before, x.lot(1, v), SmokeHall.BAD);
        }
        lotsOfSheets(x, before);
    }

    private static void lotsOfSheets(SmokeHall x, String before) {
        Checks.row(x, 1, 1, 9, 1, 2, 3, 0, 1, 2, 3, 0, 1, 2, 3, 0, 1, 2, 3, 1, -1);
        for (int n : new int[] {0, 17, -1, LOW, HIGH}) {
            Checks.refused(x, "lots n", before, x.lots(1, 1, 1, n), SmokeHall.BAD);
        }
        for (int sheet : new int[] {-1, 4, LOW, HIGH}) {
            Checks.refused(x, "lots sheet", before, x.lots(sheet, 1, 1, 1), SmokeHall.BAD);
        }
        for (int lane : new int[] {-1, 3, LOW, HIGH}) {
            Checks.refused(x, "lots lane", before, x.lots(1, lane, 1, 1), SmokeHall.BAD);
            Checks.refused(x, "lots lane ahead of NULL", before, x.lots(2, lane, 1, 1), SmokeHall.BAD);
        }
        Checks.refused(x, "lots NULL", before, x.lots(2, 1, -1, 1), SmokeHall.NULL);
        Checks.refused(x, "lots CAST", before, x.lots(1, 0, -1, 1), SmokeHall.CAST);
        for (int from : new int[] {-1, 3, 18, LOW, HIGH}) {
            Checks.refused(x, "lots INDEX", before, x.lots(1, 1, from, 16), SmokeHall.INDEX);
        }
        Checks.refused(x, "lots INDEX ahead of NOT", before, x.lots(1, 1, 17, 2), SmokeHall.INDEX);
        Checks.refused(x, "lots NOT, the last", before, x.lots(1, 1, 2, 16), SmokeHall.NOT);
        Checks.refused(x, "lots NOT, the first", before, x.lots(1, 1, 0, 16), SmokeHall.NOT);
        due("lots", x.lots(1, 1, 1, 16), 16);
        due("lot 0", x.lot(0, 1), 1);
        due("lot 3", x.lot(3, 0), 0);
        due("lot 15", x.lot(15, 1), 1);
        due("lots of two", x.lots(1, 1, 2, 2), 2);
        due("lot 0", x.lot(0, 2), 2);
        due("lot 1", x.lot(1, 3), 3);
        due("lot 2 stays", x.lot(2, 3), 3);
    }

    private static void promise11And12() {
        SmokeHall x = new SmokeHall();
        due("begin, empty", x.begin(), SmokeHall.NOT);
        due("ballots, empty", x.ballots(1), SmokeHall.NOT);
        due("ballots, BAD first", x.ballots(0), SmokeHall.BAD);
        due("hall", Checks.hall(x, "3f:a;3f:b;1k3:ba"), 3);
        String before = Checks.seen(x);
        for (int n : new int[] {0, 33, -1, LOW, HIGH}) {
            Checks.refused(x, "ballots n", before, x.ballots(n), SmokeHall.BAD);
        }
        due("ballots", x.ballots(1), 1);
        due("no lot in ballot 0", x.many(3), 0);
        due("ballots", x.ballots(2), 3);
        due("lots used", x.many(3), 2);
        due("begin", x.begin(), 3);
        due("as before", Checks.seen(x).equals(before) ? 1 : 0, 1);
        due("begin again", x.begin(), 0);
        due("all ballots", x.ballots(32), 32);
        due("none more", x.ballots(5), 32);
        due("lots used", x.many(3), 31);
        due("nobody", x.chosen(), SmokeHall.NONE);
        due("begin", x.begin(), 32);
        x.bar(1, 4, 7);
        due("till it ends", x.ballots(30), 5);
        due("chosen", x.chosen(), 1);
        due("no more", x.ballots(30), 5);
        x.bar(1, 1, 1);
        due("stays chosen", x.chosen(), 1);
        due("and over", x.ballots(1), 5);
    }

    /** The moves one by one. */
    private static void moves() {
        SmokeHall x = Checks.of("5f:ab;4l:cab;3f:b");
        x.ballots(2);
        due("lead goes to a", x.block(1, 4), 0);
        x = Checks.of("4f:a;4f:b;2l:cba");
        x.ballots(2);
        due("of like ones the first of its order", x.block(2, 4), 1);
        x = Checks.of("4f:a;4f:b;2l:cba");
        x.strike(1, 1);
        x.ballots(2);
        due("not to one that is struck", x.block(2, 4), 0);
        x = Checks.of("4l:abc;3f:d");
        x.strike(0, 1);
        x.ballots(2);
        due("of counts of 0 the first of its order", x.block(0, 4), 1);
        x = Checks.of("4n:ab;1n:ba;2f:c");
        x.bar(0, 1, 1);
        x.ballots(2);
        due("a count of 1 is above 0", x.block(1, 4), 0);
        x = Checks.of("5n:ab;3f:c");
        x.bar(0, 1, 1);
        x.strike(2, 0);
        x.ballots(2);
        due("just one is written: nobody is last", x.block(0, 4), 0);
        x = Checks.of("4n:ab;4n:ba;2n:cab");
        x.ballots(2);
        due("last goes on", x.block(2, 4), 0);
        due("not last stays", x.block(0, 4), 0);
        x = Checks.of("2n:ab;2n:ba;9f:c");
        x.bar(0, 1, 1);
        x.ballots(2);
        due("of like ones the least name is last", x.block(0, 4), 1);
        due("and not the other", x.block(1, 4), 1);
        x = Checks.of("5n:ab;3n:c;4f:b");
        x.bar(0, 1, 1);
        x.ballots(2);
        due("last with nothing behind stays", x.block(1, 4), 2);
        x.strike(2, 2);
        x.ballots(1);
        due("struck with nothing else writes nothing", x.block(1, 4), SmokeHall.NONE);
        x.strike(2, 32);
        x.ballots(1);
        due("and is firm again", x.block(1, 4), 2);
        movesByStrikes();
        movesByOthers();
    }

    private static void movesByStrikes() {
        SmokeHall x = Checks.of("6n:abcd;5f:e;5f:d");
        x.strike(0, 1);
        x.strike(1, 1);
        x.ballots(2);
        due("a struck name gives way to the first alive behind", x.block(0, 4), 2);
        x = Checks.of("2n:cab;5f:e;5f:d");
        x.strike(0, 2);
        x.strike(1, 2);
        x.strike(2, 1);
        x.ballots(2);
        due("c is struck", x.block(0, 4), 0);
        x.strike(2, 32);
        x.ballots(1);
        due("none behind is alive: as firm", x.block(0, 4), 2);
        x = Checks.of("5n:ab;3n:ba");
        x.bar(0, 1, 1);
        x.strike(1, 0);
        x.ballots(2);
        due("just one name: nobody is last", x.count(0), 8);
        due("and it is chosen", x.chosen(), 0);
        due("by the first", x.many(2), 1);
        x = Checks.of("5f:ab");
        x.strike(0, 1);
        x.bar(0, 12, 12);
        x.ballots(1);
        due("alive in ballot 0", x.block(0, 4), 0);
        x = Checks.of("5f:ab");
        x.strike(0, 0);
        x.ballots(1);
        due("not alive", x.block(0, 4), 1);
    }

    private static void movesByOthers() {
        SmokeHall x = Checks.of("4o1:ab;4o2:cb;5f:b");
        x.bar(0, 1, 1);
        x.ballots(1);
        due("firm at first", x.block(0, 4), 0);
        due("firm at first", x.block(1, 4), 2);
        x.ballots(1);
        due("c is not in its order: firm", x.block(0, 4), 0);
        due("follows", x.block(1, 4), 1);
        x.ballots(1);
        due("follows one ballot later", x.block(0, 4), 1);
        due("all on b", x.chosen(), 1);
        x = Checks.of("4o1:ab;5f:ba;9f:c");
        x.strike(1, 1);
        x.ballots(2);
        due("what it wrote is struck: firm", x.block(0, 4), 0);
        x = Checks.of("3k1:ba;3k2:ba;9f:a;5f:c");
        x.bar(0, 1, 1);
        Checks.luck(x, 1, 1, 0, 2);
        x.ballots(2);
        due("1 is not below 1: firm", x.block(0, 4), 1);
        due("1 is below 2: lead", x.block(1, 4), 0);
        x.ballots(1);
        due("0 is below 1: lead", x.block(0, 4), 0);
        due("2 is not below 2: firm", x.block(1, 4), 1);
        for (int day = 1; day < 8; day++) {
            x.bar(day, 1, 1);
        }
        due("lots go round", x.ballots(6) + x.many(3), 9 + 16);
        due("lots go round", x.ballots(1) + x.many(3), 10 + 18);
        due("by lot 0 again", x.block(0, 4), 1);
        due("by lot 1 again", x.block(1, 4), 0);
    }

    private static void promise13To15() {
        SmokeHall x = Checks.of("5f:ab;4l:cab;3f:b");
        x.bar(0, 1, 1);
        x.bar(1, 3, 4);
        x.ballots(1);
        int[] first = {5, 3, 4, 0, 0};
        for (int name = 0; name < 5; name++) {
            due("count", x.count(name), first[name]);
        }
        for (int name : OUT_OF_NAMES) {
            due("count", x.count(name), SmokeHall.BAD);
        }
        x.ballots(3);
        due("count a", x.count(0), 9);
        due("not yet", x.chosen(), SmokeHall.NONE);
        x.ballots(1);
        due("the bar sank", x.chosen(), 0);
        due("blocks", x.many(0), 3);
        due("members", x.many(1), 12);
        due("ballots", x.many(2), 5);
        due("lots", x.many(3), 0);
        for (int what : new int[] {-1, 5, LOW, HIGH}) {
            due("many", x.many(what), SmokeHall.BAD);
        }
        x.strike(0, 5);
        x.strike(1, 6);
        due("alive in the next", x.many(4), 4);
        x.strike(1, 0);
        due("alive in the next", x.many(4), 3);
        x = Checks.of("1f:a;1f:b");
        x.strike(2, 31);
        x.strike(3, 32);
        x.ballots(31);
        due("alive in ballot 31", x.many(4), 4);
        x.ballots(1);
        due("behind ballot 31: in that", x.many(4), 4);
        x = Checks.of("4f:a;4f:b");
        x.bar(0, 1, 2);
        x.ballots(1);
        due("of like ones the least name", x.chosen(), 0);
        x = Checks.of("4f:b;5f:a;6f:d");
        x.bar(0, 1, 12);
        x.ballots(1);
        due("the greatest of those with enough", x.chosen(), 3);
    }

    public static void main(String[] args) {
        promise1();
        promise2();
        promise3();
        promise4And5();
        promise6And7();
        promise8To10();
        promise11And12();
        moves();
        promise13To15();
        Checks.finish("HallTest");
    }
}
