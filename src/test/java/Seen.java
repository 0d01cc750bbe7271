import java.util.LinkedHashMap;
import java.util.Map;

/** All that can be seen of an object, cell by cell, so that a test can say which of them an act changes. */
final class Seen {
    private Seen() {
    }

    /** Asks a parish once: its answer, and that just these cells (each with what it is then) have changed. */
    static void only(String call, long due, Twin.Made made, Twin.Act act, String... changes) {
        ShornYear x = made.now();
        Map<String, String> before = cells(made.now());
        Due.is(call, act.on(x), due);
        Map<String, String> then = cells(x);
        for (int i = 0; i < changes.length; i += 2) {
            String was = before.put(changes[i], changes[i + 1]);
            Due.is(call + " is held against another " + changes[i], changes[i + 1].equals(was) ? 0 : 1, 1);
        }
        for (String cell : before.keySet()) {
            is(call + ", then " + cell, then.get(cell), before.get(cell));
        }
        Due.is(call + ", then as many cells", then.size(), before.size());
    }

    private static void is(String cell, String got, String want) {
        if (!want.equals(got)) {
            Due.is(cell + " is '" + got + "', due is '" + want + "'", 0, 1);
        }
    }

    /** The object can't be used any longer then: sheets, coats and THE TAPE are seen by using them up. */
    static Map<String, String> cells(ShornYear x) {
        Map<String, String> row = new LinkedHashMap<>();
        row.put("STATUS", status(x));
        for (int s = 0; s < 4; s++) {
            row.put("SHEET " + s, sheet(x, s));
        }
        parish(x, "", row);
        // Behind the undo, THE TAPE is still to be seen.
        int kept = x.undo();
        row.put("KEPT", kept == Due.NONE ? "nothing" : String.valueOf(kept));
        if (kept != Due.NONE) {
            parish(x, "KEPT ", row);
        }
        row.put("TAPE", tape(x));
        return row;
    }

    private static String status(ShornYear x) {
        StringBuilder row = new StringBuilder().append(x.status(-1)).append(':');
        for (int w = 0; w < 7; w++) {
            row.append(' ').append(x.status(w));
        }
        return row.toString();
    }

    private static void parish(ShornYear x, String name, Map<String, String> row) {
        row.put(name + "MONTH", String.valueOf(x.now(0)));
        for (int m = 0; m < 12; m++) {
            row.put(name + "WEATHER " + m, String.valueOf(x.monthOf(m, 0) - 100));
            row.put(name + "STORE " + m, String.valueOf(x.monthOf(m, 1)));
            row.put(name + "ROUGH " + m, String.valueOf(x.monthOf(m, 2)));
        }
        int ewes = x.count(0);
        row.put(name + "EWES", String.valueOf(ewes));
        for (int e = 0; e < ewes; e++) {
            StringBuilder one = new StringBuilder().append(x.of(e, 0)).append(' ').append(x.of(e, 1)).append(':');
            for (int m = 0; m < 12; m++) {
                one.append(' ').append(x.fleece(e, m));
            }
            row.put(name + "EWE " + e, one.toString());
        }
        for (int c = 0; c < 4; c++) {
            row.put(name + "COAT " + c, coat(x, c));
        }
    }

    /** Month by month, by what comes back to STORE (which stays far below 9999 here). */
    private static String coat(ShornYear x, int c) {
        int set = x.coatOf(c, 3);
        StringBuilder row = new StringBuilder().append(x.coatOf(c, 2)).append(':');
        int[] before = new int[12];
        for (int m = 0; m < 12; m++) {
            before[m] = (set >> m & 1) == 1 ? x.monthOf(m, 1) : 0;
        }
        x.unpick(c);
        for (int m = 0; m < 12; m++) {
            if ((set >> m & 1) == 1) {
                row.append(' ').append(m).append('=').append(x.monthOf(m, 1) - before[m]);
            }
        }
        return row.toString();
    }

    private static String sheet(ShornYear x, int s) {
        StringBuilder row = new StringBuilder();
        long was = 0;
        for (int i = 0; i <= 40; i++) {
            was = x.write(s, i, 0x123456789aL);
            if (was == Due.BEYOND || was == Due.MISSING) {
                break;
            }
            row.append(' ').append(was);
        }
        if (was == Due.MISSING) {
            return "MISSING";
        }
        // What is left of that number tells how many bits there are.
        long left = x.write(s, 0, 0);
        int bits = left == (byte) 0x9a ? 8 : left == 0x789a ? 16 : left == 0x123456789aL ? 64 : 0;
        return bits + ":" + row;
    }

    /** How many bytes, and what they are as the beginning of a text that an 'm' ends. */
    private static String tape(ShornYear x) {
        StringBuilder row = new StringBuilder().append(x.count(1)).append(':');
        x.feed('m', 1);
        int had = x.count(0);
        row.append(' ').append(x.parish());
        for (int e = had; e < x.count(0); e++) {
            row.append(' ').append(x.of(e, 0)).append(' ').append(x.of(e, 1));
        }
        return row.toString();
    }
}
