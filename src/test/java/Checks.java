/** What the tests share: texts typed, answers compared, all of an object's state looked at. */
final class Checks {
    static int wrong = 0;
    static int made = 0;

    private Checks() {
    }

    static void due(String call, long got, long want) {
        made++;
        if (got != want) {
            wrong++;
            System.out.println(call + " answered " + got + ", due is " + want);
        }
    }

    static void finish(String test) {
        System.out.println(test + ": " + made + " checks, " + wrong + " wrong");
        if (wrong != 0) {
            System.exit(1);
        }
    }

    static long bytes(String part) {
        long w = 0;
        for (int i = 0; i < part.length(); i++) {
            w = w << 8 | part.charAt(i);
        }
        return w;
    }

    static void type(SmokeHall x, String text) {
        for (int at = 0; at < text.length(); at += 8) {
            String part = text.substring(at, Math.min(text.length(), at + 8));
            x.type(bytes(part), part.length());
        }
    }

    static int hall(SmokeHall x, String text) {
        type(x, text);
        return x.hall();
    }

    static SmokeHall of(String text) {
        SmokeHall x = new SmokeHall();
        if (hall(x, text) < 1) {
            wrong++;
            System.out.println("no hall: " + text);
        }
        return x;
    }

    static void row(SmokeHall x, int sheet, int lane, int... items) {
        x.sheet(sheet, lane, items.length);
        for (int i = 0; i < items.length; i++) {
            x.item(sheet, lane, i, items[i]);
        }
    }

    static void luck(SmokeHall x, int... lots) {
        for (int i = 0; i < lots.length; i++) {
            x.lot(i, lots[i]);
        }
    }

    static void bars(SmokeHall x, int p, int q) {
        for (int day = 0; day < 8; day++) {
            if (x.bar(day, p, q) < 0) {
                wrong++;
                System.out.println("no bar: " + p + " / " + q);
            }
        }
    }

    /** All that can be seen but sheets and the tape; what can be read by setting alone is set back. */
    static String seen(SmokeHall x) {
        StringBuilder all = new StringBuilder();
        for (int i = 0; i < 5; i++) {
            all.append(x.many(i)).append(' ').append(x.count(i)).append(' ');
            int struck = x.strike(i, 32);
            x.strike(i, struck);
            all.append(struck).append(' ');
        }
        all.append(x.chosen()).append('|');
        for (int b = 0; b < 6; b++) {
            for (int w = 0; w < 5; w++) {
                all.append(x.block(b, w)).append(' ').append(x.order(b, w)).append(' ');
            }
        }
        for (int d = 0; d < 8; d++) {
            int was = x.bar(d, 1, 1);
            int p = (was - 1) / 12;
            x.bar(d, p, was - 12 * p);
            all.append('|').append(was);
        }
        for (int i = 0; i < 16; i++) {
            int was = x.lot(i, 0);
            x.lot(i, was);
            all.append(' ').append(was);
        }
        return all.toString();
    }

    /**
     * All that an object holds, sheets, tape and image too, if each item is a lot. These can be read by using them up
     * alone, so the object is of no more use behind it; it takes some 330 calls.
     */
    static String spent(SmokeHall x) {
        StringBuilder all = new StringBuilder(seen(x));
        for (int s = 0; s < 4; s++) {
            for (int lane = 0; lane < 3; lane++) {
                all.append("|").append(items(x, s, lane));
            }
            all.append('#').append(x.drop(s));
        }
        all.append("|tape ").append(x.type(' ', 1)).append(' ').append(x.hall());
        for (int b = 0; b < x.many(0); b++) {
            all.append(' ').append(x.block(b, 0)).append(' ').append(x.block(b, 3)).append(' ').append(x.order(b, 0));
        }
        all.append("|image ").append(x.restore()).append(' ').append(seen(x));
        return all.toString();
    }

    private static String items(SmokeHall x, int sheet, int lane) {
        StringBuilder items = new StringBuilder();
        int answer = x.lots(sheet, lane, 0, 1);
        for (int i = 1; answer == 1; i++) {
            items.append(x.lot(0, 0)).append(' ');
            answer = x.lots(sheet, lane, i, 1);
        }
        return items.append(answer).toString();
    }

    /** A call that must be refused, and change nothing. */
    static void refused(SmokeHall x, String call, String before, long got, long want) {
        due(call, got, want);
        due(call + " changed nothing", seen(x).equals(before) ? 1 : 0, 1);
    }
}
