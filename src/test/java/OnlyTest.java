import java.util.LinkedHashMap;
import java.util.Map;

/** Promises 2 to 39 in one parish, in the midst of a year: what each answers there, and that it changes that only. */
public final class OnlyTest {
    private static final Twin.Made MADE = Twin::parish;

    public static void main(String[] args) {
        year();
        ewes();
        coats();
        oneMonth();
        toJune();
        ahead();
        best();
        tape();
        text();
        sheets();
        lays();
        booksAndReads();
        image();
        undo();
        tear();
        counts();
        Due.end();
    }

    private static void looks(String call, long due, Twin.Act act) {
        Seen.only(call, due, MADE, act);
    }

    private static void year() {
        Seen.only("weather", -9, MADE, x -> x.weather(4, 7), "WEATHER 4", "7");
        Seen.only("weather of now", 1, MADE, x -> x.weather(9, -20), "WEATHER 9", "-20");
        looks("monthOf, WEATHER", 109, x -> x.monthOf(3, 0));
        looks("monthOf, STORE", 67, x -> x.monthOf(3, 1));
        looks("monthOf, ROUGH", 3, x -> x.monthOf(3, 2));
        int[] now = {9, 9, 101, 157, 12, 56};
        for (int w = 0; w < now.length; w++) {
            int what = w;
            looks("now(" + w + ")", now[w], x -> x.now(what));
        }
        Seen.only("a finding", Due.BEYOND, MADE, x -> x.weather(4, 21), "STATUS", "1: 1 0 0 0 0 0 0");
    }

    private static void ewes() {
        Seen.only("ewe", 2, MADE, x -> x.ewe(Due.PET), "EWES", "3", "EWE 2", "5 0: 0 0 0 0 0 0 0 0 0 0 0 0");
        Seen.only("scare", 0, MADE, x -> x.scare(1, 44), "EWE 1", "4 44: 0 0 0 0 0 0 13 0 16 0 0 0");
        Seen.only("scare less", 35, MADE, x -> x.scare(0, 4), "EWE 0", "0 4: 0 0 0 0 0 0 7 8 12 0 0 0");
        Seen.only("turn", 0, MADE, x -> x.turn(0, Due.LAMB), "EWE 0", "2 35: 0 0 0 0 0 0 7 8 12 0 0 0");
        Seen.only("turn of a BLACK", 4, MADE, x -> x.turn(1, Due.WETHER), "EWE 1", "3 0: 0 0 0 0 0 0 13 0 16 0 0 0");
        looks("of, KIND", Due.BLACK, x -> x.of(1, 0));
        looks("of, FRIGHT", 35, x -> x.of(0, 1));
        looks("of, wool", 29, x -> x.of(1, 2));
        looks("of, CALMS", 10, x -> x.of(0, 3));
        looks("fleece", 16, x -> x.fleece(1, 8));
        looks("fleece of none", 0, x -> x.fleece(1, 9));
        looks("can, GROWS", 13, x -> x.can(0, 0, -7));
        looks("can, LOSES", 3, x -> x.can(0, 1, 3));
        looks("can, BURRS", 4, x -> x.can(1, 2, -9));
        looks("as", 35, x -> x.as(0, Due.EWE));
        looks("as one above", 0, x -> x.as(1, Due.RAM));
        Seen.only("as another", Due.KIND, MADE, x -> x.as(1, Due.LAMB), "STATUS", "1: 0 0 1 0 0 0 0");
    }

    /** Neither ROUGH nor FLEECES have a part in it. */
    private static void coats() {
        Seen.only("cut", 5, MADE, x -> x.cut(2, 3, 5), "STORE 3", "62", "COAT 2", "10: 3=5 8=5");
        Seen.only("cut all", 87, MADE, x -> x.cut(1, 3, 67), "STORE 3", "0", "COAT 1", "93: 3=87 8=6");
        Seen.only("cut for a new one", 1, MADE, x -> x.cut(0, 4, 1), "STORE 4", "25", "COAT 0", "1: 4=1");
        Seen.only("unpick", 26, MADE, x -> x.unpick(1), "STORE 3", "87", "STORE 8", "35", "COAT 1", "0:");
        looks("unpick of none", 0, x -> x.unpick(0));
        looks("WARMTH", 20 + 12, x -> x.coatOf(1, 0));
        looks("HARSH", 0, x -> x.coatOf(1, 1));
        looks("wool", 26, x -> x.coatOf(1, 2));
        looks("months", 8 + 256, x -> x.coatOf(1, 3));
    }

    /** "MONTH is 1 more": no June, so STORE stays. */
    private static void oneMonth() {
        Seen.only("months(1)", 157, MADE, x -> x.months(1), "MONTH", "10",
            "EWE 0", "0 25: 0 0 0 0 0 0 7 8 12 7 0 0", "EWE 1", "4 0: 0 0 0 0 0 0 13 0 16 13 0 0");
    }

    /** "A MONTH goes", nine times, the last of which is JUNE; what is in coats is not in STORE. */
    private static void toJune() {
        Seen.only("months(9)", 450, MADE, x -> x.months(9), "MONTH", "18",
            "EWE 0", "0 0: 0 0 0 0 0 0 0 0 0 0 0 0", "EWE 1", "4 0: 0 0 0 0 0 0 0 0 0 0 0 0",
            "STORE 0", "42", "STORE 1", "31", "STORE 2", "26", "STORE 3", "90", "STORE 4", "57", "STORE 5", "46",
            "STORE 6", "20", "STORE 7", "8", "STORE 8", "57", "STORE 9", "20", "STORE 10", "21", "STORE 11", "32",
            "ROUGH 0", "6", "ROUGH 1", "3", "ROUGH 2", "3", "ROUGH 3", "6", "ROUGH 4", "10", "ROUGH 5", "6",
            "ROUGH 6", "3", "ROUGH 8", "3", "ROUGH 9", "3", "ROUGH 10", "3", "ROUGH 11", "5");
    }

    /** "AHEAD: n MONTHS go on with all as it is; nothing changes." */
    private static void ahead() {
        looks("on, wool", 27 + 7 + 8 + 14 + 16, x -> x.on(0, 4, 0));
        looks("on, FRIGHT", 5, x -> x.on(0, 3, 1));
        looks("then, STORE", 32, x -> x.then(11, 9, 0));
        looks("then, ROUGH", 5, x -> x.then(11, 9, 1));
        looks("then, before June", 67, x -> x.then(3, 8, 0));
        looks("enough", 9, x -> x.enough(7, 8));
        looks("enough by the next June", 21, x -> x.enough(7, 9));
        Seen.only("never enough", Due.NONE, MADE, x -> x.enough(7, 99), "STATUS", "1: 0 0 0 1 0 0 0");
        looks("calm", 4, x -> x.calm(0));
        looks("calm already", 0, x -> x.calm(1));
    }

    private static void best() {
        looks("kind", Due.RAM, x -> x.kind(1, 9));
        looks("kind before June", Due.EWE, x -> x.kind(1, 8));
        looks("cold", -10, x -> x.cold(11, 9, 32));
        looks("cold, of less", -6, x -> x.cold(11, 9, 28));
        looks("cold, of what has grown", 20, x -> x.cold(8, 9, 57));
        looks("best", 4, x -> x.best(1, 10));
        looks("best of much", 8, x -> x.best(1, 27));
        looks("best of more", 3, x -> x.best(1, 30));
        looks("bears", 39, x -> x.bears(0, 3, 56));
        // A BLACK one has no wool of months 3 and 10 at 14 and 13, so no burrs of them.
        looks("milder", 3, x -> x.milder(9));
        looks("milder before June", 0, x -> x.milder(1));
        looks("warmest", 1, ShornYear::warmest);
    }

    private static void tape() {
        Seen.only("feed", 16, MADE, x -> x.feed(' ', 1), "TAPE", "16: -14");
        Seen.only("feed 2", 17, MADE, x -> x.feed('m' << 8 | ';', 2), "TAPE", "17: -18");
        Seen.only("wipe", 15, MADE, ShornYear::wipe, "TAPE", "0: -1");
        Seen.only("a FAULT", -14, MADE, ShornYear::parish, "TAPE", "0: -1");
    }

    private static void text() {
        Twin.Made told = () -> {
            ShornYear x = Twin.parish();
            x.wipe();
            Twin.lay(x, "lamb fright 3;cold 4 2;mild 6 9;store 3 9;cut 0 3 4");
            return x;
        };
        Seen.only("parish", 5, told, ShornYear::parish, "TAPE", "0: -1", "EWES", "3",
            "EWE 2", "2 3: 0 0 0 0 0 0 0 0 0 0 0 0", "WEATHER 4", "-2", "WEATHER 6", "9", "STORE 3", "5",
            "COAT 0", "4: 3=4");
    }

    private static void sheets() {
        Seen.only("sheet", 2, MADE, x -> x.sheet(0, 16, 2), "SHEET 0", "16: 0 0");
        Seen.only("sheet of as many", 3, MADE, x -> x.sheet(0, 8, 3), "SHEET 0", "8: 0 0 0");
        Seen.only("sheet of 64", 1, MADE, x -> x.sheet(3, 64, 1), "SHEET 3", "64: 0");
        Seen.only("no sheet", 0, MADE, x -> x.sheet(1, 0, 5), "SHEET 1", "MISSING");
        looks("no sheet still", 0, x -> x.sheet(3, 0, 5));
        Seen.only("write", -300, MADE, x -> x.write(2, 1, 70000), "SHEET 2", "16: 300 4464");
        Seen.only("write 8 bits", 1, MADE, x -> x.write(0, 0, 1000), "SHEET 0", "8: -24 -2 3");
        Seen.only("copy", 1, MADE, x -> x.copy(0, 1, 1, 0, 1), "SHEET 1", "8: -2 5");
        Seen.only("copy to the last", 1, MADE, x -> x.copy(0, 0, 1, 1, 1), "SHEET 1", "8: 4 1");
        Seen.only("copy to itself", 2, MADE, x -> x.copy(0, 0, 0, 1, 2), "SHEET 0", "8: 1 1 -2");
        Seen.only("copy back", 2, MADE, x -> x.copy(0, 1, 0, 0, 2), "SHEET 0", "8: -2 3 3");
    }

    /** "WEATHER of months of the year 0, 1, ..", whichever MONTH it is now. */
    private static void lays() {
        Seen.only("lays", 3, MADE, x -> x.lays(0), "WEATHER 0", "1", "WEATHER 1", "-2");
        looks("lays none", 0, x -> x.lays(2));
    }

    private static void booksAndReads() {
        Seen.only("book", 3, MADE, x -> x.book(0, 1), "SHEET 0", "8: 29 42 55");
        Seen.only("book of the other", 2, MADE, x -> x.book(1, 0), "SHEET 1", "8: 27 34");
        Seen.only("book of 16 bits", 2, MADE, x -> x.book(2, 1), "SHEET 2", "16: 29 42");
        looks("read of none", 0, x -> x.read(0, 0));
        Twin.Made booked = () -> {
            ShornYear x = Twin.parish();
            x.book(0, 1);
            x.book(1, 0);
            return x;
        };
        Seen.only("read", 100, booked, x -> x.read(0, 1));
        // 7 of month 9: an EWE of 30 to 39 (10 less 3), a PET of these (11 less 4), a WETHER of 50 to 59 (12 less 5).
        Seen.only("read of the other", 30, booked, x -> x.read(1, 0));
    }

    private static void image() {
        Map<String, String> before = Seen.cells(Twin.parish());
        Map<String, String> due = new LinkedHashMap<>(before);
        for (Map.Entry<String, String> cell : before.entrySet()) {
            if (isOfParish(cell.getKey())) {
                due.put("KEPT " + cell.getKey(), cell.getValue());
            }
        }
        due.put("KEPT", "2");
        ShornYear x = Twin.parish();
        Due.is("image", x.image(), 1);
        same("image", Seen.cells(x), due);
    }

    private static boolean isOfParish(String cell) {
        return !cell.startsWith("KEPT") && !cell.startsWith("SHEET") && !cell.equals("TAPE") && !cell.equals("STATUS");
    }

    private static void undo() {
        Map<String, String> before = Seen.cells(Twin.parish());
        Map<String, String> due = new LinkedHashMap<>();
        for (Map.Entry<String, String> cell : before.entrySet()) {
            if (!isOfParish(cell.getKey())) {
                due.put(cell.getKey(), cell.getValue());
            }
            if (cell.getKey().startsWith("KEPT ")) {
                due.put(cell.getKey().substring("KEPT ".length()), cell.getValue());
            }
        }
        ShornYear x = Twin.parish();
        Due.is("undo", x.undo(), 1);
        same("undo", Seen.cells(x), due);
    }

    private static void tear() {
        Map<String, String> due = Seen.cells(Twin.parish());
        due.keySet().removeIf(cell -> cell.startsWith("KEPT "));
        due.put("KEPT", "nothing");
        ShornYear x = Twin.parish();
        Due.is("tear", x.tear(), 1);
        same("tear", Seen.cells(x), due);
    }

    private static void same(String call, Map<String, String> got, Map<String, String> due) {
        for (String cell : due.keySet()) {
            boolean is = due.get(cell).equals(got.get(cell));
            Due.is(call + ", then " + cell + " is '" + got.get(cell) + "', due is '" + due.get(cell) + "'", is ? 1 : 0, 1);
        }
        Due.is(call + ", then as many cells", got.size(), due.size());
    }

    private static void counts() {
        int[] due = {2, 15, 2, 35};
        for (int w = 0; w < due.length; w++) {
            int what = w;
            looks("count(" + w + ")", due[w], x -> x.count(what));
        }
        for (int w = -1; w < 7; w++) {
            int which = w;
            looks("status(" + w + ")", 0, x -> x.status(which));
        }
        Seen.only("another count", Due.BEYOND, MADE, x -> x.count(4), "STATUS", "1: 1 0 0 0 0 0 0");
        Seen.only("another status", Due.BEYOND, MADE, x -> x.status(7), "STATUS", "1: 1 0 0 0 0 0 0");
    }
}
