import java.util.ArrayList;
import java.util.List;

/** Asks one of two objects that were made alike, and holds all that can be seen of it against the other. */
final class Twin {
    interface Made {
        ShornYear now();
    }

    interface Act {
        long on(ShornYear x);
    }

    interface ActBy {
        long on(ShornYear x, int v);
    }

    private Twin() {
    }

    /** Something of everything: two ewes with wool, rough wool, coats, three sheets, an image, half a text. */
    static ShornYear parish() {
        ShornYear x = new ShornYear();
        text(x, "ewe fright 99;store 3 70;cut 1 3 20");
        x.months(3);
        x.image();
        text(x, "black fright 50;mild 2 3;store 8 40;cut 2 8 5;cut 1 8 6");
        x.months(6);
        x.scare(0, 35);
        x.sheet(0, 8, 3);
        x.write(0, 0, 1);
        x.write(0, 1, -2);
        x.write(0, 2, 3);
        x.sheet(1, 8, 2);
        x.write(1, 0, 4);
        x.write(1, 1, 5);
        x.sheet(2, 16, 2);
        x.write(2, 0, 300);
        x.write(2, 1, -300);
        lay(x, "pet fright 7;ra");
        return x;
    }

    /** That parish, with as many ewes as there may be. */
    static ShornYear full() {
        ShornYear x = parish();
        for (int e = 2; e < 8; e++) {
            x.ewe(e % 6);
        }
        return x;
    }

    /** That parish in a month that is 9 at least, by the fewest calls. */
    static ShornYear inMonth(int month) {
        ShornYear x = parish();
        int left = month - 9;
        while (left > 0) {
            int n = Math.min(60, left);
            x.months(n);
            left -= n;
        }
        return x;
    }

    /** Four bytes a call, since an object may be asked 512 times only. */
    static void lay(ShornYear x, String text) {
        for (int i = 0; i < text.length(); i += 4) {
            int bytes = 0;
            int n = Math.min(4, text.length() - i);
            for (int k = 0; k < n; k++) {
                bytes = bytes << 8 | text.charAt(i + k);
            }
            x.feed(bytes, n);
        }
    }

    static int text(ShornYear x, String text) {
        lay(x, text);
        return x.parish();
    }

    static ShornYear told(String text) {
        ShornYear x = new ShornYear();
        if (text(x, text) < 0) {
            Due.is("the text " + text, 0, 1);
        }
        return x;
    }

    /** A refused call: its finding, that it is counted, and that nothing else changes. */
    static void refused(String call, int finding, Made made, Act act) {
        ShornYear x = made.now();
        ShornYear y = made.now();
        Due.is(call, act.on(x), finding);
        int which = Due.BEYOND - finding;
        for (int w = 0; w < 7; w++) {
            Due.is(call + ", then status(" + w + ")", x.status(w), y.status(w) + (w == which ? 1 : 0));
        }
        Due.is(call + ", then status(-1)", x.status(-1), y.status(-1) + 1);
        same(call, x, y);
    }

    /** A call that answers and changes nothing at all. */
    static void looks(String call, long due, Made made, Act act) {
        ShornYear x = made.now();
        ShornYear y = made.now();
        Due.is(call, act.on(x), due);
        Due.is(call + ", then status(-1)", x.status(-1), y.status(-1));
        same(call, x, y);
    }

    /** Both ends are good; what is just behind them, and far behind, is BEYOND. */
    static void range(String call, int least, int most, Made made, ActBy act) {
        good(call, least, made, act);
        good(call, most, made, act);
        int[] wild = {least - 1, most + 1, Integer.MIN_VALUE, Integer.MIN_VALUE + 1, Integer.MAX_VALUE - 1,
            Integer.MAX_VALUE, least - 256, least + 256, least - 65536, least + 65536, least + (1 << 30),
            most + Integer.MIN_VALUE};
        for (int v : wild) {
            if (v < least || v > most) {
                refused(call + " of " + v, Due.BEYOND, made, x -> act.on(x, v));
            }
        }
    }

    private static void good(String call, int v, Made made, ActBy act) {
        ShornYear x = made.now();
        int before = x.status(0);
        Due.is(call + " of " + v + " is BEYOND", act.on(x, v) == Due.BEYOND ? 1 : 0, 0);
        Due.is(call + " of " + v + " is told as BEYOND", x.status(0), before);
    }

    /** Holds two against one another; neither can be used any longer. */
    static void same(String call, ShornYear x, ShornYear y) {
        List<Long> got = reading(x);
        List<Long> due = reading(y);
        Due.is(call + ", then as much to see", got.size(), due.size());
        for (int i = 0; i < Math.min(got.size(), due.size()); i++) {
            Due.is(call + ", then what is seen at " + i, got.get(i), due.get(i));
        }
    }

    private static List<Long> reading(ShornYear x) {
        List<Long> row = new ArrayList<>();
        see(x, row);
        seeSheets(x, row);
        seeCoats(x, row);
        row.add((long) x.undo());
        see(x, row);
        // Half a text becomes a whole one, so that the bytes of THE TAPE are seen, too.
        row.add((long) x.feed('m', 1));
        row.add((long) x.parish());
        int ewes = x.count(0);
        for (int e = 0; e < ewes; e++) {
            row.add((long) x.of(e, 0));
            row.add((long) x.of(e, 1));
        }
        return row;
    }

    private static void see(ShornYear x, List<Long> row) {
        for (int what = 0; what < 6; what++) {
            row.add((long) x.now(what));
        }
        for (int what = 0; what < 4; what++) {
            row.add((long) x.count(what));
            for (int c = 0; c < 4; c++) {
                row.add((long) x.coatOf(c, what));
            }
        }
        for (int m = 0; m < 12; m++) {
            for (int what = 0; what < 3; what++) {
                row.add((long) x.monthOf(m, what));
            }
        }
        int ewes = x.count(0);
        for (int e = 0; e < ewes; e++) {
            for (int what = 0; what < 3; what++) {
                row.add((long) x.of(e, what));
            }
            for (int m = 0; m < 12; m++) {
                row.add((long) x.fleece(e, m));
            }
        }
    }

    private static void seeSheets(ShornYear x, List<Long> row) {
        for (int s = 0; s < 4; s++) {
            for (int i = 0; i <= 40; i++) {
                long was = x.write(s, i, 0x123456789aL);
                row.add(was);
                if (was <= Due.SIZE + 6 && was >= Due.SIZE) {
                    break;
                }
            }
            // What is left of that number tells how many bits there are.
            row.add(x.write(s, 0, 0));
        }
    }

    private static void seeCoats(ShornYear x, List<Long> row) {
        for (int c = 0; c < 4; c++) {
            int had = x.unpick(c);
            row.add((long) had);
            for (int m = 0; m < 12 && had > 0; m++) {
                row.add((long) x.monthOf(m, 1));
            }
        }
    }
}
