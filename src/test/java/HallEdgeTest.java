/**
 * The edges that promises 1 to 15 and the terms ahead of them name, sentence by sentence, where HallTest has none.
 * Each answer is worked out by hand; wrong numbers are RefusalTest's.
 */
public final class HallEdgeTest {
    private static final int NONE = SmokeHall.NONE, BAD = SmokeHall.BAD, FULL = SmokeHall.FULL;
    /** 63 bytes, all six clauses, each with all five names. */
    private static final String WIDEST = "20k1:abcde;20k2:bcdea;20o5:cdeab;20l:deabc;20n:eabcd;20o1:edcba";

    private static void due(String call, long got, long want) {
        Checks.due(call, got, want);
    }

    /** "An object is used for at most 512 calls": the last of them is as good as the first. */
    private static void lastCall() {
        SmokeHall x = Checks.of("1k1:ab;1f:b");
        int calls = 3;
        for (; calls < 509; calls++) {
            x.lot(calls % 16, 3);
        }
        due("call 510", x.ballots(32), 32);
        due("call 511", x.many(3), 31);
        due("call 512", x.lot(0, 0), 3);
    }

    /** "The n lowest bytes (1 .. 8) of w, of these the highest first". */
    private static void typedBytes() {
        for (int n = 1; n <= 8; n++) {
            SmokeHall x = new SmokeHall();
            long above = n == 8 ? 0 : -1L << 8 * n;
            long lowest = Checks.bytes("       3".substring(8 - n));
            due("bytes above the lowest " + n, x.type(above | lowest, n), n);
            due("behind the tape", x.type(Checks.bytes("f:a"), 3), n + 3);
            due("hall", x.hall(), 1);
            due("members", x.block(0, 0), 3);
        }
        SmokeHall x = new SmokeHall();
        due("eight of eight", x.type(Checks.bytes("1f:abcde"), 8), 8);
        due("hall", x.hall(), 1);
        for (int i = 0; i < 5; i++) {
            due("in their order", x.order(0, i), i);
        }
    }

    /** "FULL: 80": the eightieth byte is good, the next is not, and none of a part that does not fit is taken. */
    private static void fullTape() {
        SmokeHall x = new SmokeHall();
        Checks.type(x, " ".repeat(72));
        due("eight to 80", x.type(Checks.bytes("    7f:e"), 8), 80);
        due("the next", x.type('d', 1), FULL);
        due("all 80 are read", x.hall(), 1);
        due("the last too", x.order(0, 0), 4);
        due("and no more", x.block(0, 3), 1);
        due("the tape is empty then", x.type('7', 1), 1);
        Checks.type(x, " ".repeat(72));
        due("eight to 81", x.type(Checks.bytes("f:abcde "), 8), FULL);
        due("seven to 80", x.type(Checks.bytes("f:abcde"), 7), 80);
        due("of 73 and 7", x.hall(), 1);
        due("names", x.block(0, 3), 5);
        Checks.type(x, " ".repeat(80 - WIDEST.length()) + WIDEST);
        due("six clauses on 80 bytes", x.hall(), 6);
        due("the last name", x.order(5, 4), 0);
        Checks.type(x, " ".repeat(80 - WIDEST.length()) + WIDEST.substring(0, WIDEST.length() - 1) + "e");
        due("a fault of the last byte", x.hall(), -20 - 79);
        Checks.type(x, " ".repeat(72) + "3f:a;20k");
        due("a fault at the end of 80", x.hall(), -20 - 80);
    }

    /** "THE TAPE, which is empty then": the second of two halls is read from nothing. */
    private static void emptyTape() {
        SmokeHall x = new SmokeHall();
        due("new", x.hall(), -20);
        due("hall", Checks.hall(x, "3f:ab;4n:ba"), 2);
        x.ballots(2);
        String before = Checks.seen(x);
        Checks.refused(x, "no text", before, x.hall(), -20);
        Checks.refused(x, "still none", before, x.hall(), -20);
    }

    /** "no BALLOT yet, the first LOT is next": nobody is CHOSEN either. */
    private static void newHall() {
        SmokeHall x = Checks.of("3k1:ab;9f:b;1f:e;1f:d;1f:c;1f:e");
        Checks.bars(x, 12, 12);
        x.bar(1, 1, 2);
        x.ballots(32);
        due("chosen", x.chosen(), 1);
        due("lots", x.many(3), 4);
        due("the same hall again", Checks.hall(x, "3k1:ab;9f:b;1f:e;1f:d;1f:c;1f:e"), 6);
        due("nobody", x.chosen(), NONE);
        due("lots", x.many(3), 0);
        due("ballots", x.many(2), 0);
        for (int i = 0; i < 5; i++) {
            due("count", x.count(i), 0);
        }
        for (int b = 0; b < 6; b++) {
            due("wrote", x.block(b, 4), NONE);
        }
        due("ballots go on", x.ballots(1), 1);
    }

    private static void good(String text, int blocks) {
        due("'" + text + "'", Checks.hall(new SmokeHall(), text), blocks);
    }

    private static void fault(String text, int place) {
        due("'" + text + "'", Checks.hall(Checks.of("3f:ab"), text), -20 - place);
    }

    /** "a number (1 .. 20, MEMBERS)", "of a number that is none of those its first byte". */
    private static void numbers() {
        for (int members = 1; members <= 20; members++) {
            SmokeHall x = Checks.of(members + "f:a");
            due("members", x.block(0, 0), members);
            due("members", x.many(1), members);
        }
        for (int members : new int[] {0, 21, 22, 99, 100, 200, Integer.MAX_VALUE}) {
            fault(members + "f:a", 0);
            fault("20f:a; " + members + "f:a", 7);
        }
        fault("2147483649f:a", 0);
        fault("4294967297f:a", 0);
        fault("18446744073709551617f:a", 0);
        fault("/f:a", 0);
        fault(":f:a", 0);
        fault("3f:a;:", 5);
    }

    /** "blanks count for nothing, but between two digits of a number". */
    private static void blanks() {
        good("20f:a", 1);
        fault("2 0f:a", 2);
        fault("2   0f:a", 4);
        fault("0 5f:a", 0);
        fault("3f:a;1 2f:a", 7);
        good(" 2f : a ; 3 o 0 : b c ; 4 k 1 : c ", 3);
        fault("   f", 3);
        fault("3 f : a b  a", 11);
        fault("3 o  6", 5);
        fault("3f:a ;  21f:a", 8);
    }

    /** "o and a digit (0 .. 5: a BLOCK, of those that the TEXT has; it may be a later one)". */
    private static void followers() {
        String text = "1f:a";
        for (int blocks = 1; blocks <= 6; blocks++) {
            for (int digit = 0; digit <= 5; digit++) {
                String follower = "1o" + digit + ":a" + text.substring(4);
                if (digit < blocks) {
                    good(follower, blocks);
                } else {
                    fault(follower, 2);
                }
            }
            text += ";1f:a";
        }
        good("1o2:a;1o0:a;1o1:a", 3);
        fault("1o/:a", 2);
        fault("1o6", 2);
        fault("1o:a", 2);
    }

    /** "of an o whose BLOCK is not there its digit, if nothing else is wrong": but o6 is wrong wherever it stands. */
    private static void followersWithMoreWrong() {
        fault("1o5:a;1f:a;1f:a;1f:a;1f:a", 2);
        fault("1f:a;1f:a;1f:a;1f:a;1o5:a", 22);
        fault("1o2:a;1o3:a", 2);
        fault("1o1:a;1o3:a", 8);
        fault("1o5:a;x", 6);
        fault("1o5:a;21f:a", 6);
        fault("1o5:a;1k1:a;1k1:a;1k1:a", 19);
        fault("1o5:a;1o6:a", 8);
        fault("1o6:a;x", 2);
        fault("1o6:aa", 2);
        fault("1o9:a;1f:a;1f:a;1f:a;1f:a;1f:a;", 2);
    }

    /** "k and a digit (1 .. 3)", "a third k ... can't". */
    private static void lotBlocks() {
        for (int digit = 1; digit <= 3; digit++) {
            due("digit", Checks.of("1k" + digit + ":a").block(0, 2), digit);
        }
        fault("1k0:a", 2);
        fault("1k4:a", 2);
        good("1k1:a;1f:a;1k1:a;1f:a", 4);
        fault("1k1:a;1f:a;1k1:a;1f:a;1k1:a", 23);
        fault("1k1:a;1k1:a;1k", 13);
        fault("1k1:a;1k1:a;1 k9", 14);
        SmokeHall x = new SmokeHall();
        due("two, and a fault", Checks.hall(x, "1k1:a;1k1:a;"), -32);
        due("two again", Checks.hall(x, "1k1:a;1k1:a"), 2);
    }

    /** "1 to 6 CLAUSES with ; between", "a seventh CLAUSE's ; can't", "1 to 5 NAMES, no two alike". */
    private static void clausesAndNames() {
        String text = "1f:a";
        for (int blocks = 1; blocks <= 6; blocks++) {
            good(text, blocks);
            text += ";1f:a";
        }
        fault(text, 29);
        fault(text + ";1f:a", 29);
        fault("1f:a1f:a", 4);
        fault("1f:a,1f:a", 4);
        for (int names = 1; names <= 5; names++) {
            String order = "edcba".substring(0, names);
            due("names", Checks.of("1f:" + order).block(0, 3), names);
            for (int again = 0; again < names; again++) {
                fault("1f:" + order + order.charAt(again), 3 + names);
            }
        }
        fault("1f:`", 3);
        fault("1f:f", 3);
        fault("1f:a`", 4);
        fault("1f:af", 4);
    }

    /** "BLOCKS 0 .. 5": the sixth answers as the others do. */
    private static void sixthBlock() {
        SmokeHall x = Checks.of(WIDEST);
        int[] moves = {4, 4, 3, 2, 1, 3};
        int[] digits = {1, 2, 5, NONE, NONE, 1};
        for (int b = 0; b < 6; b++) {
            due("members", x.block(b, 0), 20);
            due("move", x.block(b, 1), moves[b]);
            due("digit", x.block(b, 2), digits[b]);
            due("names", x.block(b, 3), 5);
            for (int i = 0; i < 5; i++) {
                due("order", x.order(b, i), b == 5 ? 4 - i : (b + i) % 5);
            }
        }
        due("blocks", x.many(0), 6);
        due("members", x.many(1), 120);
        due("need", x.need(7), 80);
        due("no seventh", x.block(6, 0), BAD);
        due("no seventh", x.order(6, 0), BAD);
        x.ballots(1);
        due("wrote e", x.block(5, 4), 4);
        due("count e", x.count(4), 40);
        x.ballots(1);
        due("follows block 1", x.block(5, 4), 1);
    }

    /** "four a DAY (0 .. 7)": the first and the last ballot of each day go by its bar, those beside it do not. */
    private static void ballotsOfADay() {
        for (int day = 0; day < 8; day++) {
            SmokeHall x = Checks.of("2f:ab;2f:ba;1f:c");
            Checks.bars(x, 1, 1);
            x.bar(day, 4, 5);
            x.strike(0, 0);
            due("first of day " + day, x.ballots(32), 4 * day + 1);
            due("b", x.chosen(), 1);
            x.begin();
            x.strike(0, 4 * day + 3);
            due("last of day " + day, x.ballots(32), 4 * day + 4);
            due("b", x.chosen(), 1);
            x.begin();
            x.strike(0, 4 * day + 4);
            due("behind day " + day, x.ballots(32), 32);
            due("nobody", x.chosen(), NONE);
        }
    }

    /** "to the higher whole one", "if some COUNT is NEED or more": so many are enough, one fewer is not. */
    private static void enough() {
        SmokeHall x = Checks.of("4f:a;2f:b");
        due("a whole one stays", x.need(0), 4);
        x.ballots(1);
        due("just enough", x.chosen(), 0);
        x = Checks.of("4f:a;3f:b");
        due("four and two thirds", x.need(0), 5);
        x.ballots(1);
        due("one too few", x.chosen(), NONE);
        x = Checks.of("1f:a");
        for (int q = 1; q <= 12; q++) {
            x.bar(0, 1, q);
            due("never none", x.need(0), 1);
        }
        x = Checks.of("1f:a;5f:e");
        x.ballots(1);
        due("e", x.chosen(), 4);
        x = Checks.of("3f:e;3f:d");
        x.bar(0, 1, 2);
        x.ballots(1);
        due("of like ones the least", x.chosen(), 3);
        x = Checks.of("3f:a;4f:e");
        x.bar(0, 1, 12);
        x.ballots(1);
        due("the greatest, if more than one have enough", x.chosen(), 4);
        due("no more ballots", x.ballots(32), 1);
    }

    /** "STRUCK from a BALLOT on (32: never, at first)": alive in the ballot ahead, not in that one. */
    private static void struckFrom() {
        for (int from = 0; from <= 32; from++) {
            SmokeHall x = Checks.of("1f:ea;1f:b");
            Checks.bars(x, 1, 1);
            x.strike(4, from);
            if (from > 0) {
                x.ballots(from);
                due("alive in ballot " + (from - 1), x.block(0, 4), 4);
            }
            due("alive in the next", x.many(4), from == 32 ? 5 : 4);
            due("ballots", x.ballots(1), Math.min(from + 1, 32));
            due("from " + from, x.block(0, 4), from == 32 ? 4 : 0);
        }
    }

    /** "(nothing, if there is none)", "(as FIRM, too, if it wrote nothing)", behind ballot 0. */
    private static void nothingToWrite() {
        SmokeHall x = Checks.of("1l:ab;1f:ab;1k1:ab;1o3:ab;1n:ab;2f:c");
        Checks.bars(x, 1, 1);
        x.strike(0, 1);
        x.strike(1, 1);
        x.ballots(2);
        for (int b = 0; b < 5; b++) {
            due("block " + b + " has no name left", x.block(b, 4), NONE);
        }
        due("none wrote a", x.count(0), 0);
        due("c", x.count(2), 2);
        due("a lot is used all the same", x.many(3), 1);
        x.strike(1, 32);
        x.ballots(1);
        for (int b = 0; b < 5; b++) {
            due("block " + b + " is as firm", x.block(b, 4), 1);
        }
        x = Checks.of("2o1:ab;1f:c");
        x.strike(2, 0);
        x.bar(0, 1, 1);
        x.ballots(2);
        due("follows one that wrote nothing", x.block(0, 4), 0);
        x = Checks.of("2o0:ab;1f:c");
        Checks.bars(x, 1, 1);
        x.strike(0, 1);
        x.ballots(2);
        due("follows itself to a struck name: firm", x.block(0, 4), 1);
        x.strike(0, 32);
        x.ballots(1);
        due("follows itself", x.block(0, 4), 1);
    }

    /** "NEXT (n)": what is behind, and what if all of that is struck; "LAST", e too. */
    private static void lastNames() {
        SmokeHall x = Checks.of("1n:abc;2f:d;3f:e");
        x.strike(1, 1);
        x.strike(2, 1);
        x.ballots(2);
        due("last, all behind are struck: stays", x.block(0, 4), 0);
        x = Checks.of("1n:abc;2f:d;3f:e");
        x.strike(1, 1);
        x.ballots(2);
        due("last, the first alive behind", x.block(0, 4), 2);
        x = Checks.of("1n:ab;2f:c;3f:d");
        x.ballots(2);
        due("last, goes on to b", x.block(0, 4), 1);
        x.ballots(1);
        due("last, nothing is behind b: stays there", x.block(0, 4), 1);
        x = Checks.of("1n:ea;2f:b;3f:c");
        x.ballots(2);
        due("e is last", x.block(0, 4), 0);
        x = Checks.of("2n:ea;1f:b;3f:c");
        x.ballots(2);
        due("e is not last", x.block(0, 4), 4);
        x = Checks.of("1n:da;1n:ea;3f:b");
        x.ballots(2);
        due("of like ones the least name", x.block(0, 4), 0);
        due("not the other", x.block(1, 4), 4);
        x = Checks.of("1n:ab;2n:ba");
        x.bar(0, 1, 1);
        x.strike(0, 1);
        x.ballots(2);
        due("a struck name can be last still", x.block(1, 4), 1);
        due("all on b", x.chosen(), 1);
    }

    /** "the next LOT (0 .. 3 ...) less than its digit". */
    private static void lotsAndDigits() {
        for (int digit = 1; digit <= 3; digit++) {
            for (int lot = 0; lot <= 3; lot++) {
                SmokeHall x = Checks.of("1k" + digit + ":ba;2f:a;1f:c");
                x.bar(0, 1, 1);
                x.lot(0, lot);
                x.ballots(1);
                due("no lot in ballot 0", x.many(3), 0);
                x.ballots(1);
                due("lot " + lot + ", digit " + digit, x.block(0, 4), lot < digit ? 0 : 1);
                due("one lot", x.many(3), 1);
            }
        }
    }

    /** "THE LOTS are 16, used one behind the other, by BLOCKS in their order, round". */
    private static void lotsComeRound() {
        for (int low = 0; low < 16; low++) {
            SmokeHall x = Checks.of("1k1:ba;2f:a;1f:c");
            Checks.bars(x, 1, 1);
            for (int i = 0; i < 16; i++) {
                x.lot(i, i == low ? 0 : 3);
            }
            for (int ballot = 0; ballot < 32; ballot++) {
                x.ballots(1);
                boolean leads = ballot == low + 1 || ballot == low + 17;
                due("ballot " + ballot + " by lot " + low, x.block(0, 4), leads ? 0 : 1);
            }
            due("31 lots", x.many(3), 31);
            due("begin", x.begin(), 32);
            x.ballots(2);
            due("by the first lot again", x.block(0, 4), low == 0 ? 0 : 1);
        }
        SmokeHall x = Checks.of("1f:c;1k1:ba;1k1:ba;3f:a");
        Checks.bars(x, 1, 1);
        for (int i = 0; i < 16; i++) {
            x.lot(i, i == 15 || i == 0 ? 0 : 3);
        }
        x.ballots(9);
        due("16 lots", x.many(3), 16);
        due("lot 14 is block 1's", x.block(1, 4), 1);
        due("lot 15 is block 2's", x.block(2, 4), 0);
        x.ballots(1);
        due("lot 0 is block 1's", x.block(1, 4), 0);
        due("lot 1 is block 2's", x.block(2, 4), 1);
        due("18 lots", x.many(3), 18);
        x.ballots(32);
        due("62 lots", x.many(3), 62);
    }

    /** "no more BALLOTS then": and no more lots. "It ends without one behind BALLOT 31." */
    private static void behindTheEnd() {
        SmokeHall x = Checks.of("1k1:ba;2f:a");
        x.bar(0, 1, 1);
        x.lot(0, 3);
        due("by the second lot", x.ballots(32), 3);
        due("a", x.chosen(), 0);
        String before = Checks.seen(x);
        due("over", x.ballots(1), 3);
        due("over", x.ballots(32), 3);
        due("nothing more", Checks.seen(x).equals(before) ? 1 : 0, 1);
        x = Checks.of("2f:ab;2f:ba;1k1:c");
        Checks.bars(x, 1, 1);
        x.bar(7, 4, 5);
        x.strike(0, 31);
        due("31", x.ballots(31), 31);
        due("not yet", x.chosen(), NONE);
        due("the last", x.ballots(1), 32);
        due("b, by ballot 31", x.chosen(), 1);
        x.begin();
        x.strike(0, 32);
        due("all", x.ballots(32), 32);
        before = Checks.seen(x);
        x.strike(0, 0);
        x.bar(7, 1, 12);
        due("none is behind ballot 31", x.ballots(32), 32);
        x.strike(0, 32);
        x.bar(7, 4, 5);
        due("nothing more", Checks.seen(x).equals(before) ? 1 : 0, 1);
        due("nobody", x.chosen(), NONE);
    }

    /** "n LOTS (1 .. 16) from LOT 0 on are items of a SHEET ... from one on". */
    private static void lotsOfSheets() {
        SmokeHall x = new SmokeHall();
        Checks.row(x, 0, 0, 3, 0, 1, 2, 3, 0, 1, 2, 3, 0, 1, 2, 3, 0, 1, 2);
        due("a row of just 16", x.lots(0, 0, 0, 16), 16);
        for (int i = 0; i < 16; i++) {
            due("lot " + i, x.lot(i, 0), (i + 3) % 4);
        }
        due("17 of 16", x.lots(0, 0, 0, 17), BAD);
        due("16 of 15", x.lots(0, 0, 1, 16), SmokeHall.INDEX);
        due("the last one", x.lots(0, 0, 15, 1), 1);
        due("behind the last", x.lots(0, 0, 16, 1), SmokeHall.INDEX);
        due("lot 0", x.lot(0, 0), 2);
        due("lot 1 stays", x.lot(1, 0), 0);
    }

    /** "begin": "how many BALLOTS were"; what is told stays. */
    private static void beginsAgain() {
        SmokeHall x = Checks.of("1k1:ba;2f:a;1f:e");
        due("none were", x.begin(), 0);
        x.bar(0, 3, 4);
        x.strike(3, 6);
        x.lot(4, 2);
        String before = Checks.seen(x);
        due("chosen by ballot 1", x.ballots(32), 2);
        due("a", x.chosen(), 0);
        due("two were", x.begin(), 2);
        due("as ahead of all ballots", Checks.seen(x).equals(before) ? 1 : 0, 1);
        due("none were", x.begin(), 0);
    }

    public static void main(String[] args) {
        lastCall();
        typedBytes();
        fullTape();
        emptyTape();
        newHall();
        numbers();
        blanks();
        followers();
        followersWithMoreWrong();
        lotBlocks();
        clausesAndNames();
        sixthBlock();
        ballotsOfADay();
        enough();
        struckFrom();
        nothingToWrite();
        lastNames();
        lotsAndDigits();
        lotsComeRound();
        behindTheEnd();
        lotsOfSheets();
        beginsAgain();
        Checks.finish("HallEdgeTest");
    }
}
