/**
 * The edges that promises 16 to 29 and the terms ahead of them name, sentence by sentence, where FutureTest has none.
 * Each answer is worked out by hand; wrong numbers are RefusalTest's.
 */
public final class FutureEdgeTest {
    private static final int NONE = SmokeHall.NONE, NOT = SmokeHall.NOT, INDEX = SmokeHall.INDEX;

    private static void due(String call, long got, long want) {
        Checks.due(call, got, want);
    }

    private static SmokeHall of(String text, int p, int q) {
        SmokeHall x = Checks.of(text);
        Checks.bars(x, p, q);
        return x;
    }

    private static void ends(SmokeHall x, int name, int ballot) {
        due("ends with", x.ends(0), name);
        due("ends by", x.ends(1), ballot);
    }

    /** "BY ITSELF, told from the beginning (no BALLOT yet, the first LOT)": up to ballot 31, lots coming round. */
    private static void byItself() {
        ends(Checks.of("1f:a;5f:e"), 4, 0);
        SmokeHall x = of("2f:ab;2f:ba;1f:c", 1, 1);
        x.bar(7, 4, 5);
        x.strike(0, 31);
        ends(x, 1, 31);
        x.ballots(32);
        ends(x, 1, 31);
        x.strike(0, 32);
        ends(x, NONE, NONE);
        x = of("1k1:ba;2f:a;1f:c", 1, 1);
        x.bar(4, 3, 4);
        Checks.luck(x, 0, 3, 3, 3, 3, 3, 3, 3, 3, 3, 3, 3, 3, 3, 3, 3);
        // a has three in ballots 1 and 17 alone, three are enough in ballots 16 to 19
        ends(x, 0, 17);
        x.ballots(9);
        ends(x, 0, 17);
        x.lot(0, 3);
        x.lot(15, 0);
        ends(x, 0, 16);
    }

    private static void ring(SmokeHall x, int tail, int loop) {
        due("tail", x.ring(0), tail);
        due("loop", x.ring(1), loop);
    }

    /** "nothing were STRUCK but what is in the next BALLOT (behind BALLOT 31: in that)". */
    private static void ringAndStrikes() {
        SmokeHall x = of("1f:ea;1f:b", 1, 1);
        ring(x, 1, 1);
        x.ballots(1);
        ring(x, 0, 1);
        x.strike(4, 2);
        ring(x, 0, 1);
        x.strike(4, 1);
        ring(x, 1, 1);
        x = Checks.of("2f:ab");
        x.ballots(1);
        due("over", x.chosen(), 0);
        x.strike(0, 2);
        ring(x, 0, 1);
        x.strike(0, 1);
        ring(x, 1, 1);
        x = of("1f:ea;1f:b", 1, 1);
        x.ballots(32);
        x.strike(4, 32);
        ring(x, 0, 1);
        x.strike(4, 31);
        ring(x, 1, 1);
        x = of("1f:ea;1f:b", 1, 1);
        x.ballots(31);
        x.strike(4, 32);
        ring(x, 0, 1);
        x.strike(4, 31);
        ring(x, 1, 1);
    }

    /** "how many BALLOTS till what all wrote ... is something that they will write again (TAIL)". */
    private static void longerRings() {
        // two that change round and three in a ring: six ballots till all is as it was
        SmokeHall x = of("1o1:ab;1o0:ba;1o3:ab;1o4:ab;1o2:ba", 1, 1);
        ring(x, 1, 6);
        x.ballots(4);
        ring(x, 0, 6);
        // each follows the one behind it: b comes one block further with each ballot, then all have it
        x = of("1o1:ab;1o2:ab;1o3:ab;1o4:ab;1o5:ab;1f:ba", 1, 1);
        ring(x, 6, 1);
        x.ballots(3);
        ring(x, 3, 1);
        x = Checks.of("1k3:a;1f:a;1f:a;1f:a;1f:a;1f:a");
        ring(x, NOT, NOT);
        x = Checks.of("1f:a;1f:a;1f:a;1f:a;1f:a;1k1:a");
        ring(x, NOT, NOT);
    }

    private static void fraction(SmokeHall x, int name, int n, long above, long below) {
        due("chance above", x.chance(name, n, 0), above);
        due("chance below", x.chance(name, n, 1), below);
    }

    /** "CHANCE of a NAME within n BALLOTS (1 .. 12) from NOW": no ballot is behind ballot 31. */
    private static void chanceAtTheEnd() {
        SmokeHall x = of("3k2:de;6f:e", 1, 1);
        fraction(x, 4, 1, 0, 1);
        fraction(x, 4, 2, 1, 2);
        fraction(x, 4, 12, 2047, 2048);
        fraction(x, 3, 12, 0, 1);
        for (int i = 0; i < 16; i++) {
            x.lot(i, 3);
        }
        due("19 ballots", x.ballots(19), 19);
        fraction(x, 4, 12, 4095, 4096);
        due("21 ballots", x.ballots(2), 21);
        fraction(x, 4, 10, 1023, 1024);
        fraction(x, 4, 11, 2047, 2048);
        fraction(x, 4, 12, 2047, 2048);
        due("30 ballots", x.ballots(9), 30);
        fraction(x, 4, 1, 1, 2);
        fraction(x, 4, 2, 3, 4);
        fraction(x, 4, 3, 3, 4);
        fraction(x, 4, 12, 3, 4);
        due("31 ballots", x.ballots(1), 31);
        fraction(x, 4, 1, 1, 2);
        fraction(x, 4, 2, 1, 2);
        due("32 ballots", x.ballots(1), 32);
        for (int n = 1; n <= 12; n++) {
            fraction(x, 4, n, 0, 1);
        }
    }

    /** "each LOT is 0, 1, 2 or 3 alike", "(a NAME CHOSEN already: 1)", strikes and bars of the ballots to come. */
    private static void chancesByTheWay() {
        for (int digit = 1; digit <= 3; digit++) {
            SmokeHall x = of("3k" + digit + ":ba;6f:a", 1, 1);
            fraction(x, 0, 2, digit == 2 ? 1 : digit, digit == 2 ? 2 : 4);
        }
        SmokeHall x = of("3k2:ba;6f:a", 1, 1);
        x.strike(1, 2);
        fraction(x, 0, 2, 1, 2);
        fraction(x, 0, 3, 1, 1);
        x.lot(0, 3);
        x.ballots(3);
        due("a", x.chosen(), 0);
        for (int n = 1; n <= 12; n++) {
            fraction(x, 0, n, 1, 1);
            fraction(x, 1, n, 0, 1);
        }
        // behind ballot 0 (b, a, a) a half goes to (b, b, a), for good, a half to (a, b, a), and from there
        // a half to (a, a, a), a half back to (b, a, a): a quarter, and a quarter of the rest every other ballot
        x = of("2k2:ba;2o0:ab;3f:a", 1, 1);
        fraction(x, 0, 2, 0, 1);
        fraction(x, 0, 3, 1, 4);
        fraction(x, 0, 4, 1, 4);
        fraction(x, 0, 5, 5, 16);
        fraction(x, 0, 12, 341, 1024);
        x.ballots(1);
        fraction(x, 0, 1, 0, 1);
        fraction(x, 0, 12, 1365, 4096);
    }

    /** "if MEMBERS of BLOCKS that bear it are NEED of a DAY, or more", the days 0 and 7, block 5, name e. */
    private static void bearers() {
        SmokeHall x = Checks.of("8f:ab;4f:b");
        due("just enough", x.can(0, 0), 1);
        due("just enough", x.makes(0, 0), 1);
        x = Checks.of("8f:ab;5f:b");
        due("one too few", x.can(0, 0), NONE);
        due("one too few", x.makes(0, 0), NONE);
        x.bar(7, 8, 12);
        due("one too few", x.can(0, 7), NONE);
        x.bar(7, 7, 12);
        due("eight are needed", x.need(7), 8);
        due("day 7", x.can(0, 7), 1);
        due("day 7", x.makes(0, 7), 1);
        due("day 6 is as it was", x.can(0, 6), NONE);
        x = Checks.of("1f:a;1f:b;1f:c;1f:d;1f:a;20f:e");
        due("block 5, name e", x.can(4, 7), 32);
        due("block 5, name e", x.makes(4, 7), 32);
        due("block 5", x.stops(7), 32);
        x = Checks.of("20f:e;20f:e;20f:e;20f:e;20f:e;20f:e");
        due("four of six", x.makes(4, 0), 15);
        due("all of them", x.can(4, 0), 63);
        x.bar(7, 1, 1);
        due("all of them", x.makes(4, 7), 63);
        due("any of them", x.stops(7), 1);
        x.bar(7, 1, 12);
        due("any of them", x.makes(4, 7), 1);
        due("all of them", x.stops(7), 63);
    }

    /** "with the fewest MEMBERS, of like ones the least bits"; "fewer than NEED": as many as NEED are too many. */
    private static void fewest() {
        SmokeHall x = Checks.of("4f:a;4f:a;4f:a");
        due("eight are enough", x.makes(0, 0), 3);
        due("eight left are too many", x.stops(0), 3);
        x.bar(0, 3, 4);
        due("nine", x.makes(0, 0), 7);
        due("eight left are too few", x.stops(0), 1);
        x = Checks.of("5f:a;1f:a;4f:a;2f:a;3f:a");
        x.bar(0, 5, 12);
        due("seven are needed", x.need(0), 7);
        // 5 and 2, 1 and 4 and 2, 4 and 3 are seven each: bits 9, 14, 20
        due("the least bits, not the fewest blocks or the first", x.makes(0, 0), 9);
        x.bar(0, 2, 5);
        // six: 5 and 1, 4 and 2, 1 and 2 and 3: bits 3, 12, 26; nine may be left: six
        due("six", x.makes(0, 0), 3);
        x.bar(0, 2, 3);
        due("ten: six stop them", x.stops(0), 3);
    }

    /** "those whose ORDER has it ahead, or alone"; "more than the other way round"; "NEED of DAY 0, or more". */
    private static void comparisons() {
        SmokeHall x = Checks.of("3f:ed;2f:de;2f:a");
        due("e rather than d", x.rather(4, 3), 3);
        due("d rather than e", x.rather(3, 4), 2);
        due("e alone", x.rather(4, 1), 5);
        due("a alone", x.rather(0, 4), 2);
        due("in no order", x.rather(1, 2), 0);
        due("e", x.beats(0), 4);
        due("need", x.need(0), 5);
        due("e has but three of d", x.beats(1), NONE);
        x.bar(0, 4, 7);
        due("four are one too many", x.beats(1), NONE);
        x.bar(0, 3, 7);
        due("three are enough", x.beats(1), 4);
        x.bar(0, 2, 7);
        due("two are enough: a has so many of each, and is the first", x.beats(1), 0);
        x = Checks.of("2f:abcde;2f:bacde");
        due("alike is not more", x.beats(0), NONE);
        x.bar(0, 1, 2);
        due("but two are enough", x.beats(1), 0);
        x = Checks.of("1f:a;1f:b;1f:c;1f:d;1f:e");
        due("one each", x.beats(0), NONE);
        x.bar(0, 1, 5);
        due("one is enough", x.beats(1), 0);
    }

    /** "WAITING w BALLOTS (0 .. 4)", its worth "(9: none, or not in it)"; to the last ballot. */
    private static void waiting() {
        SmokeHall x = of("2f:ab;2f:ba;1f:c", 1, 1);
        x.bar(7, 4, 5);
        x.strike(0, 31);
        due("by ballot 31 too", x.waits(0, 1), 1);
        due("whenever it writes", x.waits(0, 0), 0);
        due("its first", x.waits(1, 1), 0);
        due("not in its order", x.waits(2, 1), 9);
        due("of like ones the least", x.waits(2, 0), 0);
        x = Checks.of("1f:a;1f:a;1f:a;1f:a;1f:a;1n:bcdea");
        due("block 5: its fifth", x.waits(5, 1), 4);
        due("block 5", x.waits(5, 0), 0);
    }

    /** "writes nothing in the first w BALLOTS": each w from 0 to 4 is the best where c goes just then. */
    private static void bestWaits() {
        for (int w = 1; w <= 4; w++) {
            // c7 comes by ballot w + 1, but where c is struck by then b7 comes instead
            SmokeHall x = Checks.of("4n:cb;3o0:bac");
            x.strike(2, w + 1);
            due("just long enough", x.waits(1, 0), w);
            due("its first", x.waits(1, 1), 0);
        }
        SmokeHall x = Checks.of("4n:cb;3o0:bac");
        x.strike(2, 1);
        due("no need to wait", x.waits(1, 0), 0);
        x.strike(2, 6);
        due("five are too many", x.waits(1, 1), 2);
    }

    /** "THE HALL stays as it is": what waiting tries is in no other answer. */
    private static void askedAfterWaiting() {
        SmokeHall x = of("4n:ac;3n:bc;3n:cb", 6, 10);
        x.ballots(1);
        Checks.row(x, 0, 0, 4, 3, 3, 0, 0, 4, 0, 6, 0, 0);
        for (int b = 0; b < 3; b++) {
            String before = answers(x);
            x.waits(b, 0);
            due("answers behind waits", answers(x).equals(before) ? 1 : 0, 1);
            x.waits(b, 1);
            due("one ballot more", x.ballots(1), 2);
            due("c", x.chosen(), 2);
            x.begin();
            x.ballots(1);
        }
    }

    private static String answers(SmokeHall x) {
        StringBuilder all = new StringBuilder();
        for (int what = 0; what < 2; what++) {
            all.append(x.ring(what)).append(' ').append(x.ends(what)).append(' ').append(x.aside(what)).append(' ');
        }
        for (int name = 0; name < 5; name++) {
            all.append(x.chance(name, 12, 0)).append('/').append(x.chance(name, 12, 1)).append(' ');
        }
        return all.append(x.edge(0)).append(' ').append(x.edge(2)).append(' ').append(x.judge(0, 0, 0, 2)).toString();
    }

    private static void aside(SmokeHall x, int name, int ballot, int end) {
        due("aside: the name", x.aside(0), name);
        due("aside: the ballot", x.aside(1), ballot);
        due("aside: the end", x.aside(2), end);
    }

    /** "that NAME and BALLOT by which it ENDS soonest ... of like ones the least BALLOT, then the least NAME". */
    private static void standingAside() {
        aside(of("3f:ea;3f:a", 1, 1), 4, 0, 0);
        aside(of("3f:ab;3f:ba", 1, 1), 0, 0, 0);
        aside(of("3f:de;3f:ed", 1, 1), 3, 0, 0);
        // b from 0 on makes a6, a from 1 to 4 on makes b6, a from 0 on neither; six are enough from ballot 4 on
        SmokeHall x = of("3l:acb;3f:ba;1f:d", 1, 1);
        x.bar(1, 6, 7);
        due("never by itself", x.ends(0), NONE);
        aside(x, 1, 0, 4);
        x.strike(1, 0);
        due("b is so already", x.ends(1), 4);
        aside(x, NONE, NONE, NONE);
    }

    /** "(or as it is, if that is earlier)", "and sooner than by itself". */
    private static void asideAlready() {
        SmokeHall x = Checks.of("6f:a");
        x.strike(0, 0);
        // were a struck from ballot 1 on, it would have come by ballot 0
        aside(x, NONE, NONE, NONE);
        for (int from = 1; from <= 8; from++) {
            x = of("3f:ea;3f:a", 1, 1);
            x.strike(4, from);
            ends(x, 0, from);
            aside(x, 4, 0, 0);
        }
        x = of("3f:ea;3f:a", 1, 1);
        x.strike(4, 0);
        aside(x, NONE, NONE, NONE);
        x = of("2f:ab;2f:ba;1f:c", 1, 1);
        x.bar(7, 4, 5);
        x.strike(0, 31);
        // by ballot 31 by itself; from ballot 28 on four are enough
        aside(x, 0, 0, 28);
        x.ballots(20);
        aside(x, 0, 0, 28);
        x.strike(0, 28);
        aside(x, NONE, NONE, NONE);
        x = of("3f:ea;3f:ba", 1, 1);
        x.strike(1, 31);
        // never by itself, for e; without e all have a in the last ballot
        ends(x, NONE, NONE);
        aside(x, 4, 0, 31);
    }

    /** "bring another NAME (or none, or one where there was none)"; the last place of the last order. */
    private static void edges() {
        SmokeHall x = of("6f:ab;3f:a", 1, 1);
        due("none where there was a", x.edge(0), 0);
        due("one name alone", x.edge(1), NONE);
        x = of("6f:ba;3f:a", 1, 1);
        due("a where there was none", x.edge(0), 0);
        x = of("6f:ab;3f:ba", 6, 9);
        due("b where there was a", x.edge(0), 0);
        due("a all the same", x.edge(1), NONE);
        x = of("1f:a;1f:a;1f:a;1f:c;1f:b;6f:deabc", 7, 11);
        x.strike(0, 0);
        x.strike(3, 0);
        x.strike(4, 0);
        ends(x, 1, 0);
        due("the fourth place of block 5", x.edge(5), 3);
        due("one name alone", x.edge(4), NONE);
        due("its order stays", x.order(5, 3), 1);
        due("its order stays", x.order(5, 4), 2);
        x = of("6f:abcde;3f:a;3f:b;3f:c", 3, 5);
        due("the first of those that do", x.edge(0), 0);
        x.ballots(1);
        due("told from the beginning", x.edge(0), 0);
    }

    /** "COUNTS of n BALLOTS (1 .. 4) are 5 n items ... from one on"; "(a BALLOT behind the end: none is)". */
    private static void judging() {
        SmokeHall x = of("4f:a;3f:b;2f:c;1f:e", 1, 1);
        int[] four = {4, 3, 2, 0, 1, 4, 3, 2, 0, 1, 4, 3, 2, 0, 1, 4, 3, 2, 0, 1};
        Checks.row(x, 0, 1, four);
        for (int n = 1; n <= 4; n++) {
            due("all are so", x.judge(0, 1, 0, n), NONE);
            due("from the last", x.judge(0, 1, 20 - 5 * n, n), NONE);
            due("behind the last", x.judge(0, 1, 21 - 5 * n, n), INDEX);
        }
        for (int i = 0; i < 20; i++) {
            x.item(0, 1, i, four[i] + 1);
            due("item " + i + " is not so", x.judge(0, 1, 0, 4), i / 5);
            due("up to its ballot", i < 5 ? NONE : x.judge(0, 1, 0, i / 5), NONE);
            x.item(0, 1, i, four[i]);
        }
        for (int size = 0; size < 5; size++) {
            x.sheet(1, 0, size);
            due("too few items", x.judge(1, 0, 0, 1), INDEX);
        }
        Checks.row(x, 1, 2, 4, 3, 2, 0, 1);
        due("just enough", x.judge(1, 2, 0, 1), NONE);
        x = Checks.of("1f:a");
        Checks.row(x, 0, 0, 1, 0, 0, 0, 0, 1, 0, 0, 0, 0);
        due("it ends by ballot 0", x.judge(0, 0, 0, 1), NONE);
        due("none is behind", x.judge(0, 0, 0, 2), 1);
        x.sheet(0, 0, 10);
        x.item(0, 0, 0, 1);
        due("nor one of counts of 0", x.judge(0, 0, 0, 2), 1);
    }

    /** "BY ITSELF": judged from the beginning and the first lot, wherever the hall is. */
    private static void judgedByItself() {
        SmokeHall x = of("1k1:ba;2f:a;1f:c", 1, 1);
        Checks.luck(x, 3, 0, 3);
        Checks.row(x, 2, 2, 2, 1, 1, 0, 0, 2, 1, 1, 0, 0, 3, 0, 1, 0, 0, 2, 1, 1, 0, 0);
        due("ahead of all", x.judge(2, 2, 0, 4), NONE);
        x.ballots(2);
        due("lots are used", x.many(3), 1);
        due("from the beginning", x.judge(2, 2, 0, 4), NONE);
        x.lot(1, 1);
        due("another lot", x.judge(2, 2, 0, 4), 2);
        due("lots used", x.many(3), 1);
    }

    /** "All but SHEETS, THE TAPE is kept": the last of each too; an empty hall is kept as well. */
    private static void images() {
        SmokeHall x = new SmokeHall();
        due("no image", x.restore(), NONE);
        x.bar(7, 1, 12);
        due("of an empty hall", x.image(), 1);
        String empty = Checks.seen(x);
        Checks.hall(x, "20k1:abcde;20k2:bcdea;20o5:cdeab;20l:deabc;20n:eabcd;20o1:edcba");
        Checks.bars(x, 11, 12);
        x.bar(7, 5, 11);
        x.strike(4, 31);
        x.lot(15, 3);
        x.ballots(2);
        String six = Checks.seen(x);
        due("restored", x.restore(), 1);
        due("empty", Checks.seen(x).equals(empty) ? 1 : 0, 1);
        due("empty", x.need(0), NOT);
        due("empty", x.ballots(1), NOT);
        x = Checks.of("20k1:abcde;20k2:bcdea;20o5:cdeab;20l:deabc;20n:eabcd;20o1:edcba");
        Checks.bars(x, 11, 12);
        x.bar(7, 5, 11);
        x.strike(4, 31);
        x.lot(15, 3);
        x.ballots(2);
        due("of six blocks", x.image(), 1);
        x.strike(4, 1);
        x.lot(15, 0);
        x.bar(7, 1, 1);
        Checks.hall(x, "1f:a");
        due("restored", x.restore(), 1);
        due("all six", Checks.seen(x).equals(six) ? 1 : 0, 1);
    }

    /** "All is as it was then": it goes on, by the same lots, or is over, as it was. */
    private static void goesOnAsThen() {
        SmokeHall x = of("1k1:ba;2f:a;1f:c", 1, 1);
        Checks.luck(x, 3, 3, 0, 3);
        x.ballots(3);
        x.image();
        x.ballots(10);
        x.restore();
        x.ballots(1);
        due("by lot 2", x.block(0, 4), 0);
        due("three lots", x.many(3), 3);
        x = Checks.of("1k1:ba;2f:a");
        x.ballots(32);
        due("over", x.chosen(), 0);
        due("image", x.image(), 1);
        x.begin();
        x.strike(0, 0);
        due("restore", x.restore(), 1);
        due("chosen then", x.chosen(), 0);
        due("and over", x.ballots(1), 1);
        due("not struck then", x.strike(0, 32), 32);
        x.begin();
        due("the image is kept on", x.restore(), 1);
        due("chosen then", x.chosen(), 0);
    }

    public static void main(String[] args) {
        byItself();
        ringAndStrikes();
        longerRings();
        chanceAtTheEnd();
        chancesByTheWay();
        bearers();
        fewest();
        comparisons();
        waiting();
        bestWaits();
        askedAfterWaiting();
        standingAside();
        asideAlready();
        edges();
        judging();
        judgedByItself();
        images();
        goesOnAsThen();
        Checks.finish("FutureEdgeTest");
    }
}
