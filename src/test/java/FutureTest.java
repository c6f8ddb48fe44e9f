/** Promises 16 to 29: what would be, and images. Each answer is worked out by hand from the document. */
public final class FutureTest {
    private static final int LOW = Integer.MIN_VALUE, HIGH = Integer.MAX_VALUE;
    private static final int[] OUT_OF_TWO = {-1, 2, LOW, HIGH};
    private static final int[] OUT_OF_NAMES = {-1, 5, LOW, HIGH};
    private static final int[] OUT_OF_DAYS = {-1, 8, LOW, HIGH};
    private static final int BAD = SmokeHall.BAD, NOT = SmokeHall.NOT, NONE = SmokeHall.NONE;

    private static void due(String call, long got, long want) {
        Checks.due(call, got, want);
    }

    private static void bars(SmokeHall x, int p, int q) {
        Checks.bars(x, p, q);
    }

    private static void emptyHall() {
        SmokeHall x = new SmokeHall();
        due("ends", x.ends(0), NOT);
        due("ring", x.ring(0), NOT);
        due("chance", x.chance(0, 1, 0), NOT);
        due("can", x.can(0, 0), NOT);
        due("makes", x.makes(0, 0), NOT);
        due("stops", x.stops(0), NOT);
        due("rather", x.rather(0, 1), NOT);
        due("beats", x.beats(0), NOT);
        due("waits", x.waits(0, 0), BAD);
        due("aside", x.aside(0), NOT);
        due("edge", x.edge(0), BAD);
        x.sheet(0, 0, 5);
        due("judge", x.judge(0, 0, 0, 1), NOT);
        due("judge: INDEX first", x.judge(0, 0, 1, 1), SmokeHall.INDEX);
        due("image", x.image(), 1);
        due("restore", x.restore(), 1);
        wrongNumbers(x);
    }

    /** BAD goes ahead of NOT, so these are the same in any hall. */
    private static void wrongNumbers(SmokeHall x) {
        for (int what : OUT_OF_TWO) {
            due("ends", x.ends(what), BAD);
            due("ring", x.ring(what), BAD);
            due("chance what", x.chance(0, 1, what), BAD);
            due("beats", x.beats(what), BAD);
            due("waits what", x.waits(0, what), BAD);
        }
        for (int what : new int[] {-1, 3, LOW, HIGH}) {
            due("aside", x.aside(what), BAD);
        }
        for (int n : new int[] {0, 13, -1, LOW, HIGH}) {
            due("chance n", x.chance(0, n, 0), BAD);
        }
        for (int name : OUT_OF_NAMES) {
            due("chance name", x.chance(name, 1, 0), BAD);
            due("can name", x.can(name, 0), BAD);
            due("makes name", x.makes(name, 0), BAD);
            due("rather name", x.rather(name, 0), BAD);
            due("rather name", x.rather(0, name), BAD);
        }
        due("rather one", x.rather(3, 3), BAD);
        for (int day : OUT_OF_DAYS) {
            due("can day", x.can(0, day), BAD);
            due("makes day", x.makes(0, day), BAD);
            due("stops day", x.stops(day), BAD);
        }
        for (int block : new int[] {-1, 6, LOW, HIGH}) {
            due("waits block", x.waits(block, 0), BAD);
            due("edge block", x.edge(block), BAD);
        }
    }

    private static void staysAsItIs() {
        SmokeHall x = Checks.of("7l:abc;6n:ba;5o0:ca;3k2:bca");
        Checks.luck(x, 1, 3, 2, 0, 1);
        x.strike(2, 6);
        bars(x, 11, 12);
        x.ballots(3);
        String before = Checks.seen(x);
        wrongNumbers(x);
        x.ends(0);
        x.ring(0);
        x.chance(0, 12, 0);
        x.can(0, 0);
        x.makes(0, 0);
        x.stops(0);
        x.rather(0, 1);
        x.beats(0);
        x.aside(0);
        for (int b = 0; b < 4; b++) {
            x.waits(b, 0);
            x.edge(b);
        }
        x.sheet(0, 0, 20);
        x.judge(0, 0, 0, 4);
        x.image();
        due("the hall stays as it is", Checks.seen(x).equals(before) ? 1 : 0, 1);
    }

    private static void promise16() {
        SmokeHall x = Checks.of("5f:ab;4l:cab;3f:b");
        due("ends with a", x.ends(0), 0);
        due("by ballot 1", x.ends(1), 1);
        x.ballots(2);
        due("told from the beginning", x.ends(1), 1);
        bars(x, 1, 1);
        due("never", x.ends(0), NONE);
        due("never", x.ends(1), NONE);
        x.bar(7, 3, 4);
        due("ends with a", x.ends(0), 0);
        due("by the first of day 7", x.ends(1), 28);
        x.bar(7, 1, 1);
        x.strike(0, 31);
        x.strike(2, 31);
        due("ends with b", x.ends(0), 1);
        due("by the last", x.ends(1), 31);
        x = Checks.of("3k1:ba;6f:a;2f:b");
        bars(x, 9, 11);
        Checks.luck(x, 3, 2, 1, 0);
        due("by the lot that is low", x.ends(1), 4);
        x.ballots(2);
        due("from the first lot", x.ends(1), 4);
    }

    private static void promise17() {
        SmokeHall x = Checks.of("5o1:ab;4o0:ba;4f:c");
        bars(x, 1, 1);
        due("two that run after each other: tail", x.ring(0), 1);
        due("loop", x.ring(1), 2);
        x.ballots(1);
        due("tail from now", x.ring(0), 0);
        due("loop from now", x.ring(1), 2);
        x.strike(1, 7);
        due("strikes to come count for nothing", x.ring(1), 2);
        x.strike(1, 1);
        due("but that of the next ballot", x.ring(0), 1);
        due("loop", x.ring(1), 1);
        x = Checks.of("5f:a;3l:ba");
        due("as if counts were never enough", x.ring(0), 2);
        due("loop", x.ring(1), 1);
        for (int name = 0; name < 5; name++) {
            x.strike(name, 0);
        }
        due("nothing again and again: tail", x.ring(0), 0);
        due("loop", x.ring(1), 1);
        x = Checks.of("1o1:ab;1o2:ab;1o3:ab;1o4:ab;1o5:ab;1o0:ba");
        // one b goes round among six
        due("a ring of six: tail", x.ring(0), 1);
        due("loop", x.ring(1), 6);
        x = Checks.of("2f:ab;2f:ba");
        x.strike(0, 31);
        x.ballots(32);
        due("behind ballot 31 a is struck", x.ring(0), 0);
        x.strike(0, 32);
        due("behind ballot 31 it is not", x.ring(0), 1);
        x = Checks.of("2f:ab;2k1:ba");
        due("lots", x.ring(0), NOT);
        due("lots", x.ring(1), NOT);
    }

    private static void fraction(SmokeHall x, int name, int n, long above, long below) {
        due("chance above", x.chance(name, n, 0), above);
        due("chance below", x.chance(name, n, 1), below);
    }

    private static void promise18() {
        SmokeHall x = Checks.of("3k1:ba;6f:a;2f:b");
        bars(x, 9, 11);
        fraction(x, 0, 1, 0, 1);
        fraction(x, 0, 2, 1, 4);
        fraction(x, 0, 3, 7, 16);
        fraction(x, 0, 12, 4194304 - 177147, 4194304);
        fraction(x, 1, 12, 0, 1);
        x.ballots(1);
        x.lot(0, 3);
        fraction(x, 0, 1, 1, 4);
        fraction(x, 0, 12, 16777216 - 531441, 16777216);
        x.lot(0, 0);
        x.ballots(1);
        due("chosen", x.chosen(), 0);
        fraction(x, 0, 1, 1, 1);
        fraction(x, 0, 12, 1, 1);
        fraction(x, 1, 12, 0, 1);
        x = Checks.of("3k1:ba;3k3:ba;9f:a;2f:b");
        bars(x, 1, 1);
        x.bar(1, 2, 3);
        fraction(x, 0, 4, 0, 1);
        fraction(x, 0, 5, 13, 16);
        fraction(x, 0, 6, 247, 256);
        x.bar(1, 6, 7);
        fraction(x, 0, 5, 3, 16);
        x = Checks.of("3k1:ba;3k1:ba;9f:a;2f:b");
        bars(x, 6, 7);
        x.ballots(1);
        fraction(x, 0, 12, 281474976710656L - 129746337890625L, 281474976710656L);
        endOfBallots();
    }

    private static void endOfBallots() {
        SmokeHall x = Checks.of("3k2:ba;6f:a;2f:b");
        bars(x, 1, 1);
        x.bar(7, 9, 11);
        Checks.luck(x, 3, 3, 3, 3, 3, 3, 3, 3, 3, 3, 3, 3, 3, 3, 3, 3);
        due("ballots", x.ballots(29), 29);
        fraction(x, 0, 3, 7, 8);
        fraction(x, 0, 4, 7, 8);
        fraction(x, 0, 12, 7, 8);
        due("ballots", x.ballots(3), 32);
        fraction(x, 0, 12, 0, 1);
    }

    private static void promise19To21() {
        SmokeHall x = Checks.of("7f:ab;6f:bc;5f:c;4f:ca");
        due("can a", x.can(0, 0), NONE);
        due("can c", x.can(2, 0), 14);
        due("can d", x.can(3, 0), NONE);
        x.bar(3, 1, 2);
        due("can a by half", x.can(0, 3), 9);
        due("makes a by half", x.makes(0, 3), 9);
        due("makes c by half", x.makes(2, 3), 6);
        due("makes c", x.makes(2, 0), 14);
        due("makes b", x.makes(1, 0), NONE);
        due("makes d", x.makes(3, 0), NONE);
        x.strike(0, 0);
        due("struck, but it can", x.can(0, 3), 9);
        due("stops: eight of 22", x.stops(0), 12);
        due("stops by half: 12", x.stops(3), 1 + 4);
        x.bar(3, 1, 1);
        due("stops by all: the fewest", x.stops(3), 8);
        x.bar(3, 1, 12);
        due("stops by two: all but none", x.stops(3), 15);
        x = Checks.of("3f:a;3f:a;6f:a;3f:a");
        x.bar(0, 2, 5);
        due("of like ones the least bits", x.makes(0, 0), 3);
        x.bar(0, 3, 5);
        due("nine of them", x.makes(0, 0), 5);
        due("stops: seven of fifteen", x.stops(0), 5);
        x.bar(0, 1, 5);
        due("the first alone", x.makes(0, 0), 1);
        x.bar(0, 2, 3);
        due("stops: six of fifteen", x.stops(0), 3);
    }

    private static void promise22And23() {
        SmokeHall x = Checks.of("7f:ab;6f:ba;5f:c;4f:cb");
        due("a rather than b", x.rather(0, 1), 7);
        due("b rather than a", x.rather(1, 0), 10);
        due("b rather than c", x.rather(1, 2), 13);
        due("c rather than b", x.rather(2, 1), 9);
        due("d rather than e", x.rather(3, 4), 0);
        due("d rather than a", x.rather(3, 0), 0);
        due("a rather than d", x.rather(0, 3), 13);
        due("b beats each other", x.beats(0), 1);
        due("not by the bar", x.beats(1), NONE);
        x.bar(0, 10, 12);
        due("the bar has no say", x.beats(0), 1);
        x.bar(0, 5, 11);
        due("by a bar of ten", x.beats(1), 1);
        x.bar(0, 1, 12);
        due("by a bar of two the first", x.beats(1), 0);
        x.bar(7, 1, 1);
        due("of day 0 alone", x.beats(1), 0);
        x = Checks.of("2f:abc;2f:bca;2f:cab");
        due("a ring of names", x.beats(0), NONE);
        x = Checks.of("2f:ab;2f:ba");
        due("even is not more", x.beats(0), NONE);
        x = Checks.of("2f:ab;3f:ba");
        due("one more is more", x.beats(0), 1);
    }

    private static void promise24() {
        SmokeHall x = Checks.of("7f:ab;6l:ba;5n:cb");
        due("none is better than 0", x.waits(0, 0), 0);
        due("a is its first", x.waits(0, 1), 0);
        due("none of them helps", x.waits(2, 0), 0);
        due("a is not in it", x.waits(2, 1), 9);
        for (int b : new int[] {-1, 3, 5}) {
            due("no block", x.waits(b, 0), BAD);
        }
        x = Checks.of("4n:ab;4f:ba;5n:cb");
        bars(x, 7, 12);
        // eight are enough; ballot 0: a4 b4 c5, a is last: ballot 1: b8
        due("b", x.ends(0), 1);
        due("by ballot 1", x.ends(1), 1);
        // block 0 waits one: b4 c5; ballot 1: a4 b4 c5; ballot 2: a is last and goes to b
        due("waiting is no use to 0", x.waits(0, 0), 0);
        due("its second", x.waits(0, 1), 1);
        x = Checks.of("4f:ba;5l:ab");
        bars(x, 1, 1);
        // ballot 0: a5 b4, and so for ever; the one that leads waits: b4, then a5 b4 all the same
        due("nobody", x.waits(1, 0), 0);
        due("nobody", x.waits(1, 1), 9);
    }

    /** Here the last to write makes the choice. */
    private static void waitingMoves() {
        SmokeHall x = Checks.of("4n:ac;3n:bc;3n:cb");
        bars(x, 6, 10);
        // by itself: a4 b3 c3, b is last: ballot 1: a4 c6: c is chosen
        due("c", x.ends(0), 2);
        due("by ballot 1", x.ends(1), 1);
        // block 1 waits one: a4 c3: c is last, goes to b: ballot 1: a4, b3 (firm), b3: b6
        due("b, by waiting one", x.waits(1, 0), 1);
        due("its first", x.waits(1, 1), 0);
        // waiting is told from the beginning, wherever the hall is
        x.ballots(2);
        due("b, by waiting one", x.waits(1, 0), 1);
        x = Checks.of("4n:cb;3o0:bac");
        x.strike(2, 5);
        // by itself c7 by ballot 1, and so by ballot w + 1 as long as c is alive then; four make that 5: b7
        due("c", x.ends(0), 2);
        due("b, by waiting four", x.waits(1, 0), 4);
        due("its first", x.waits(1, 1), 0);
        x.strike(2, 6);
        due("five would be too many", x.waits(1, 0), 0);
        due("its third", x.waits(1, 1), 2);
        lotsOfWaiters();
    }

    private static void lotsOfWaiters() {
        SmokeHall x = Checks.of("3k1:ba;3k2:ca;6f:a");
        bars(x, 1, 1);
        // in ballot 1 lots 0, 1; in ballot 2 lots 2, 3: 3 then 0 and 0 then 3, never both; but if block 0 waits one
        // ballot, block 1 has lot 0 in ballot 1, and lots 1, 2 are for ballot 2: both go to a
        Checks.luck(x, 3, 0, 0, 3, 3, 3, 3, 3, 3, 3, 3, 3, 3, 3, 3, 3);
        due("never", x.ends(0), NONE);
        due("by waiting one", x.waits(0, 0), 1);
        due("its second", x.waits(0, 1), 1);
    }

    private static void promise25() {
        SmokeHall x = Checks.of("4n:abc;4n:bca;4n:cab");
        due("a", x.aside(0), 0);
        due("from ballot 0", x.aside(1), 0);
        due("ends by ballot 0", x.aside(2), 0);
        x.strike(0, 0);
        due("by itself it ends by 0: none is sooner", x.aside(0), NONE);
        x = Checks.of("7f:ab;6f:ba;5f:c");
        due("b aside: a by ballot 0", x.aside(0), 0);
        due("from ballot 0", x.aside(1), 0);
        x = Checks.of("7f:a;6f:b;5f:c");
        due("none", x.aside(0), NONE);
        due("none", x.aside(1), NONE);
        due("none", x.aside(2), NONE);
        x = Checks.of("5f:ab;4f:b;9f:c;9f:d");
        bars(x, 1, 1);
        due("whoever goes, not all have one name", x.aside(0), NONE);
        x = Checks.of("3l:bca;3f:a");
        bars(x, 1, 1);
        // b from 0 on: c3 a3 for ever; b from 1 on: of c0 and a3 it is a
        due("b", x.aside(0), 1);
        due("from 1", x.aside(1), 1);
        due("ends by 1", x.aside(2), 1);
        laterAside();
        asideByLots();
    }

    /** As the last hall, but the block goes to the leader in one ballot alone: b must be struck in just that. */
    private static void asideByLots() {
        SmokeHall x = Checks.of("3k1:bca;3f:a");
        bars(x, 1, 1);
        Checks.luck(x, 3, 3, 3, 3, 3, 3, 0, 3, 3, 3, 3, 3, 3, 3, 3, 3);
        due("b", x.aside(0), 1);
        due("from 7", x.aside(1), 7);
        due("ends by 7", x.aside(2), 7);
        x.lot(6, 3);
        x.lot(7, 0);
        due("from 8 is no more asked", x.aside(0), NONE);
    }

    private static void laterAside() {
        SmokeHall x = Checks.of("5f:ab;5f:ba;4f:cb");
        bars(x, 1, 1);
        x.bar(1, 5, 7);
        // day 1 is the first with a bar of ten: c to b makes nine; a to b makes ten
        due("a", x.aside(0), 0);
        due("from ballot 0 as well as from 4", x.aside(1), 0);
        due("ends by 4", x.aside(2), 4);
        x.strike(0, 6);
        due("by itself with ballot 6", x.ends(1), 6);
        due("sooner", x.aside(2), 4);
        x.strike(0, 4);
        due("as it is: none is sooner", x.aside(0), NONE);
        x = Checks.of("4o1:ba;4f:cab;4f:d");
        bars(x, 8, 12);
        // c struck from 0 on: b4 a4 d4; ballot 1: a8; struck from 1 on: ballot 1: b a, ballot 2: a a
        due("b aside: a4 c4, ballot 0; never sooner than c", x.aside(0), 2);
        due("from 0", x.aside(1), 0);
        due("ends by 1", x.aside(2), 1);
        x = Checks.of("3n:abc;3f:cb;3f:dc");
        bars(x, 6, 9);
        // by itself: a3 c3 d3, a is last: b c d, then b is last: c c d: c by ballot 2
        due("c", x.ends(0), 2);
        due("by 2", x.ends(1), 2);
        // d aside from 0: a c c: ballot 0
        due("d", x.aside(0), 3);
        due("0", x.aside(2), 0);
    }

    private static void promise26() {
        SmokeHall x = Checks.of("7f:ab;6f:ba;5f:c");
        due("none, then b", x.edge(0), 0);
        due("none, then a", x.edge(1), 0);
        due("one name has no edge", x.edge(2), NONE);
        for (int b : new int[] {-1, 3, 6}) {
            due("no block", x.edge(b), BAD);
        }
        x = Checks.of("4n:ac;3n:bc;3n:cb");
        bars(x, 6, 10);
        // c4 b3 c3 is c by 0: the same name; b: a4 c3 c3: c6 by 0: the same; c: a4 b3 b3: b
        due("c4: the same", x.edge(0), NONE);
        due("b6 no more: the same", x.edge(1), NONE);
        due("b comes", x.edge(2), 0);
        x = Checks.of("5f:abc;5l:ca;3f:b");
        bars(x, 1, 1);
        x.bar(0, 10, 12);
        x.strike(1, 1);
        // thirteen, eleven needed: a5 c5 b3; then b is struck: a5, l: c or a alike: c first, none
        due("none by itself", x.ends(0), NONE);
        // b first: b8 c5, then a5 c5 as ever; abc to acb: nothing new
        due("no edge", x.edge(0), NONE);
        x = Checks.of("6f:dabc;3f:c;3f:b");
        x.strike(3, 0);
        x.strike(0, 0);
        bars(x, 9, 12);
        // b9 by itself; da changed round, ab changed round: b9; bc changed round: c9
        due("the third place", x.edge(0), 2);
        x = Checks.of("6f:deabc;3f:c;3f:b");
        x.strike(3, 0);
        x.strike(4, 0);
        x.strike(0, 0);
        bars(x, 9, 12);
        due("the fourth place", x.edge(0), 3);
    }

    private static void promise27() {
        SmokeHall x = Checks.of("7f:ab;6l:ba;5n:cb");
        // ballot 0: a7 b6 c5; ballot 1: a13 b5, chosen
        for (int lane = 0; lane < 3; lane++) {
            Checks.row(x, lane, lane, 1, 7, 6, 5, 0, 0, 13, 5, 0, 0, 0, 13, 5, 0, 0, 0, 0, 0, 0, 0, 0, 0, 0);
            due("one", x.judge(lane, lane, 1, 1), NONE);
            due("two", x.judge(lane, lane, 1, 2), NONE);
            due("three: behind the end none is", x.judge(lane, lane, 1, 3), 2);
            due("four", x.judge(lane, lane, 1, 4), 2);
            due("moved by one", x.judge(lane, lane, 0, 4), 0);
            due("moved by five", x.judge(lane, lane, 6, 1), 0);
            x.item(lane, lane, 1, 8);
            due("the first of the first", x.judge(lane, lane, 1, 2), 0);
            x.item(lane, lane, 1, 7);
            x.item(lane, lane, 10, 1);
            due("the last of the second", x.judge(lane, lane, 1, 2), 1);
            x.item(lane, lane, 10, 256);
            due("its lowest bits", x.judge(lane, lane, 1, 2), lane == 0 ? NONE : 1);
        }
        x.ballots(2);
        due("by itself", x.judge(0, 0, 1, 2), NONE);
        String before = Checks.seen(x);
        for (int n : new int[] {0, 5, -1, LOW, HIGH}) {
            Checks.refused(x, "judge n", before, x.judge(0, 0, 0, n), BAD);
        }
        for (int sheet : new int[] {-1, 4, LOW, HIGH}) {
            Checks.refused(x, "judge sheet", before, x.judge(sheet, 0, 0, 1), BAD);
        }
        for (int lane : new int[] {-1, 3, LOW, HIGH}) {
            Checks.refused(x, "judge lane", before, x.judge(3, lane, 0, 1), BAD);
        }
        due("judge NULL", x.judge(3, 0, -1, 1), SmokeHall.NULL);
        due("judge CAST", x.judge(0, 1, -1, 1), SmokeHall.CAST);
        for (int from : new int[] {-1, 4, 24, LOW, HIGH}) {
            due("judge INDEX", x.judge(0, 0, from, 4), SmokeHall.INDEX);
        }
        due("to the last item", x.judge(0, 0, 3, 4), 0);
    }

    private static void promise28And29() {
        SmokeHall x = Checks.of("7f:ab;6l:ba;5k1:cb");
        bars(x, 11, 12);
        x.strike(4, 9);
        x.lot(2, 3);
        x.ballots(3);
        String then = Checks.seen(x);
        due("no image yet", x.restore(), NONE);
        due("image", x.image(), 1);
        Checks.row(x, 2, 1, 5, 6);
        due("another hall", Checks.hall(x, "1f:e"), 1);
        bars(x, 1, 1);
        x.strike(4, 1);
        x.lot(2, 1);
        x.ballots(1);
        Checks.type(x, "4f");
        due("another state", Checks.seen(x).equals(then) ? 1 : 0, 0);
        due("restore", x.restore(), 1);
        due("as it was then", Checks.seen(x).equals(then) ? 1 : 0, 1);
        due("the sheet is no part of it", x.item(2, 1, 1, 0), 1);
        due("nor is the tape", Checks.hall(x, ":b"), 1);
        due("it is typed on", x.block(0, 0), 4);
        due("again", x.restore(), 1);
        due("as it was then", Checks.seen(x).equals(then) ? 1 : 0, 1);
        due("goes on from there", x.ballots(1), 4);
        due("lots too", x.many(3), 3);
        due("a later image", x.image(), 1);
        due("begin", x.begin(), 4);
        due("restore the later", x.restore(), 1);
        due("four", x.many(2), 4);
    }

    public static void main(String[] args) {
        emptyHall();
        staysAsItIs();
        promise16();
        promise17();
        promise18();
        promise19To21();
        promise22And23();
        promise24();
        waitingMoves();
        promise25();
        promise26();
        promise27();
        promise28And29();
        Checks.finish("FutureTest");
    }
}
