/** What the tests share: texts typed, answers compared, all of an object's state looked at. */
final class Checks {
    static int wrong = 0;
    static int made = 0;

    private Checks() {
    }

    static void due(String call, long got, long want) {
        made++;
        if (got != want) {
            wrong++;
            System.out.println(call + " answered " + got + ", due is " + want);
        }
    }

    static void finish(String test) {
        System.out.println(test + ": " + made + " checks, " + wrong + " wrong");
        if (wrong != 0) {
            System.exit(1);
        }
    }

    static long bytes(String part) {
        long w = 0;
        for (int i = 0; i < part.length(); i++) {
            w = w << 8 | part.charAt(i);
        }
        return w;
    }

    static void type(SmokeHall x, String text) {
        for (int at = 0; at < text.length(); at += 8) {
            String part = text.substring(at, Math.min(text.length(), at + 8));
            x.type(bytes(part), part.length());
        }
    }

    static int hall(SmokeHall x, String text) {
        type(x, text);
        return x.hall();
    }

    static SmokeHall of(String text) {
        SmokeHall x = new SmokeHall();
        if (hall(x, text) < 1) {
            wrong++;
            System.out.println("no hall: " + text);
        }
        return x;
    }

    static void row(SmokeHall x, int sheet, int lane, int... items) {
        x.sheet(sheet, lane, items.length);
        for (int i = 0; i < items.length; i++) {
            x.item(sheet, lane, i, items[i]);
        }
    }

    static void luck(SmokeHall x, int... lots) {
        for (int i = 0; i < lots.length; i++) {
            x.lot(i, lots[i]);
        }
    }

    /** All that can be seen but sheets and the tape; what can be read by setting alone is set back. */
    static String seen(SmokeHall x) {
        StringBuilder all = new StringBuilder();
        for (int i = 0; i < 5; i++) {
            all.append(x.many(i)).append(' ').append(x.count(i)).append(' ');
            int struck = x.strike(i, 32);
            x.strike(i, struck);
            all.append(struck).append(' ');
        }
        all.append(x.chosen()).append('|');
        for (int b = 0; b < 6; b++) {
            for (int w = 0; w < 5; w++) {
                all.append(x.block(b, w)).append(' ').append(x.order(b, w)).append(' ');
            }
        }
        for (int d = 0; d < 8; d++) {
            int was = x.bar(d, 1, 1);
            int p = (was - 1) / 12;
            x.bar(d, p, was - 12 * p);
            all.append('|').append(was);
        }
        for (int i = 0; i < 16; i++) {
            int was = x.lot(i, 0);
            x.lot(i, was);
            all.append(' ').append(was);
        }
        return all.toString();
    }

    /** A call that must be refused, and change nothing. */
    static void refused(SmokeHall x, String call, String before, long got, long want) {
        due(call, got, want);
        due(call + " changed nothing", seen(x).equals(before) ? 1 : 0, 1);
    }
}
