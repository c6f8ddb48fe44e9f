/** Promises 30 to 32: sheets, read back by judging counts and by taking lots from them. */
public final class SheetTest {
    private static final int LOW = Integer.MIN_VALUE, HIGH = Integer.MAX_VALUE;
    private static final int[] OUT_OF_SHEETS = {-1, 4, LOW, HIGH};
    private static final int[] OUT_OF_LANES = {-1, 3, LOW, HIGH};

    private static void due(String call, long got, long want) {
        Checks.due(call, got, want);
    }

    private static void promise30() {
        SmokeHall x = new SmokeHall();
        for (int s = 0; s < 4; s++) {
            for (int lane = 0; lane < 3; lane++) {
                for (int n : new int[] {0, 1, 24}) {
                    due("sheet", x.sheet(s, lane, n), n);
                    due("its last", x.item(s, lane, n - 1, 1), n == 0 ? SmokeHall.INDEX : 1);
                    due("behind its last", x.item(s, lane, n, 1), SmokeHall.INDEX);
                }
            }
        }
        for (int s : OUT_OF_SHEETS) {
            due("sheet", x.sheet(s, 0, 1), SmokeHall.BAD);
            due("BAD ahead of SIZE", x.sheet(s, 0, -1), SmokeHall.BAD);
        }
        for (int lane : OUT_OF_LANES) {
            due("lane", x.sheet(0, lane, 1), SmokeHall.BAD);
            due("BAD ahead of SIZE", x.sheet(0, lane, -1), SmokeHall.BAD);
        }
        due("too many", x.sheet(0, 0, 25), SmokeHall.BAD);
        due("too many", x.sheet(0, 0, HIGH), SmokeHall.BAD);
        due("too few", x.sheet(0, 0, -1), SmokeHall.SIZE);
        due("too few", x.sheet(0, 0, LOW), SmokeHall.SIZE);
        due("what is refused changes nothing", x.item(0, 2, 23, 1), 1);
        due("sheet", x.sheet(1, 1, 3), 3);
        due("of another lane", x.item(1, 2, 0, 1), SmokeHall.CAST);
        newRowsAreEmpty();
    }

    private static void newRowsAreEmpty() {
        SmokeHall x = new SmokeHall();
        Checks.row(x, 0, 2, 7, 7, 7);
        due("a 7 is no lot", x.lots(0, 2, 2, 1), SmokeHall.NOT);
        due("a new row", x.sheet(0, 2, 24), 24);
        due("of 0", x.lots(0, 2, 0, 16), 16);
        due("of 0", x.lots(0, 2, 8, 16), 16);
        Checks.row(x, 0, 2, 7, 7, 7);
        due("a shorter one", x.sheet(0, 2, 1), 1);
        due("ends sooner", x.lots(0, 2, 0, 2), SmokeHall.INDEX);
        due("then a longer one", x.sheet(0, 2, 3), 3);
        due("of 0", x.lots(0, 2, 0, 3), 3);
        Checks.row(x, 1, 0, 3, 3, 3);
        due("rows do not share items", x.lots(0, 2, 0, 3), 3);
        due("lot 0", x.lot(0, 0), 0);
    }

    /** "A SHEET holds a new row of a LANE": all of its items are 0 again, and no other sheet's are. */
    private static void newRowsOfEachSheet() {
        for (int s = 0; s < 4; s++) {
            for (int lane = 0; lane < 3; lane++) {
                SmokeHall x = new SmokeHall();
                for (int other = 0; other < 4; other++) {
                    fill(x, other, lane, 3);
                }
                due("a new row", x.sheet(s, lane, 24), 24);
                for (int other = 0; other < 4; other++) {
                    due("its first", itemAt(x, other, lane, 0), other == s ? 0 : 3);
                    due("its 12th", itemAt(x, other, lane, 12), other == s ? 0 : 3);
                    due("its last", itemAt(x, other, lane, 23), other == s ? 0 : 3);
                }
                due("drop", x.drop(s), 24);
                for (int other = 0; other < 4; other++) {
                    due("the others stay", itemAt(x, other, lane, 23), other == s ? SmokeHall.NULL : 3);
                }
            }
        }
    }

    private static void fill(SmokeHall x, int sheet, int lane, int v) {
        x.sheet(sheet, lane, 24);
        for (int i = 0; i < 24; i++) {
            due("item " + i, x.item(sheet, lane, i, v), 1);
        }
    }

    private static int itemAt(SmokeHall x, int sheet, int lane, int i) {
        int taken = x.lots(sheet, lane, i, 1);
        return taken == 1 ? x.lot(0, 0) : taken;
    }

    /** "a row of a LANE": a new row may be of another, and a dropped one comes back as nothing but 0. */
    private static void anotherLane() {
        SmokeHall x = new SmokeHall();
        for (int lane = 0; lane < 3; lane++) {
            due("a row", x.sheet(3, lane, 2), 2);
            for (int other = 0; other < 3; other++) {
                int want = other == lane ? 1 : SmokeHall.CAST;
                due("item", x.item(3, other, 1, 2), want);
                due("lots", x.lots(3, other, 1, 1), want);
                due("judge", x.judge(3, other, 0, 1), other == lane ? SmokeHall.INDEX : SmokeHall.CAST);
            }
        }
        due("drop", x.drop(3), 2);
        due("the same again", x.sheet(3, 2, 2), 2);
        due("of 0", itemAt(x, 3, 2, 1), 0);
        due("none is left", x.sheet(3, 2, 0), 0);
        due("no item", x.item(3, 2, 0, 1), SmokeHall.INDEX);
        due("drop", x.drop(3), 0);
    }

    private static void promise31() {
        SmokeHall x = new SmokeHall();
        for (int s : OUT_OF_SHEETS) {
            due("drop", x.drop(s), SmokeHall.BAD);
        }
        due("nothing to drop", x.drop(0), SmokeHall.NULL);
        x.sheet(0, 1, 24);
        x.sheet(1, 1, 0);
        due("drop", x.drop(0), 24);
        due("nothing to drop", x.drop(0), SmokeHall.NULL);
        due("drop of no items", x.drop(1), 0);
        due("item", x.item(1, 1, 0, 1), SmokeHall.NULL);
    }

    private static void promise32() {
        SmokeHall x = new SmokeHall();
        x.sheet(2, 0, 2);
        for (int s : OUT_OF_SHEETS) {
            due("item sheet", x.item(s, 0, 0, 1), SmokeHall.BAD);
        }
        for (int lane : OUT_OF_LANES) {
            due("item lane", x.item(2, lane, 0, 1), SmokeHall.BAD);
            due("BAD ahead of NULL", x.item(0, lane, 0, 1), SmokeHall.BAD);
        }
        due("NULL ahead of INDEX", x.item(0, 0, -1, 1), SmokeHall.NULL);
        due("CAST ahead of INDEX", x.item(2, 1, -1, 1), SmokeHall.CAST);
        for (int i : new int[] {-1, 2, LOW, HIGH}) {
            due("item i", x.item(2, 0, i, 1), SmokeHall.INDEX);
        }
        keeps(x, 0, 256 + 3, 3);
        keeps(x, 0, -256, 0);
        keeps(x, 0, 255, -1);
        keeps(x, 0, 128, -128);
        keeps(x, 0, 127, 127);
        keeps(x, 0, LOW + 1, 1);
        keeps(x, 0, HIGH, -1);
        keeps(x, 1, 65536 + 2, 2);
        keeps(x, 1, 259, 259);
        keeps(x, 1, 65535, -1);
        keeps(x, 1, 32768, -32768);
        keeps(x, 1, -65536, 0);
        keeps(x, 1, LOW + 1, 1);
        keeps(x, 1, HIGH, -1);
        keeps(x, 2, 65536 + 2, 65538);
        keeps(x, 2, 3, 3);
        keeps(x, 2, LOW, LOW);
        keeps(x, 2, LOW + 1, LOW + 1);
        keeps(x, 2, HIGH, HIGH);
        keeps(x, 2, 4, 4);
    }

    /** An item is 0 .. 3 if and only if it can be taken as a lot. */
    private static void keeps(SmokeHall x, int lane, int v, int as) {
        x.sheet(3, lane, 1);
        due("item", x.item(3, lane, 0, v), 1);
        boolean isLot = as >= 0 && as <= 3;
        due(v + " in lane " + lane, x.lots(3, lane, 0, 1), isLot ? 1 : SmokeHall.NOT);
        if (isLot) {
            due(v + " in lane " + lane, x.lot(0, 0), as);
        }
    }

    /** Counts stand on a sheet of bytes up to the greatest that a hall can have. */
    private static void greatCounts() {
        SmokeHall x = Checks.of("20f:a;20f:a;20f:a;20f:a;20f:a;20f:a");
        for (int lane = 0; lane < 3; lane++) {
            Checks.row(x, lane, lane, 120, 0, 0, 0, 0);
            due("judge", x.judge(lane, lane, 0, 1), SmokeHall.NONE);
            x.item(lane, lane, 4, -1);
            due("judge", x.judge(lane, lane, 0, 1), 0);
        }
    }

    public static void main(String[] args) {
        promise30();
        newRowsOfEachSheet();
        anotherLane();
        promise31();
        promise32();
        greatCounts();
        Checks.finish("SheetTest");
    }
}
