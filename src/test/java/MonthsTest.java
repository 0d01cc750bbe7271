/** Promises 15 to 19: months, on, then, enough, calm. */
public final class MonthsTest {
    public static void main(String[] args) {
        months();
        frightInMonths();
        shearing();
        lastMonth();
        caps();
        on();
        then();
        enough();
        calm();
        aheadChangesNothing();
        Due.end();
    }

    private static void months() {
        ShornYear x = Due.told("ewe; wether");
        Due.is("five", x.months(5), 0);
        Due.is("and June", x.months(1), 73 + 72);
        Due.is("a year", x.months(12), 73 + 72 + 141 + 144);
        Due.is("five years", x.months(60), 73 + 72 + 6 * (141 + 144));
        Due.all("beyond", Due.BEYOND, x.months(0), x.months(-1), x.months(61));
        Due.is("month", x.now(0), 78);
        for (int wild : Due.WILD) {
            Due.is("months, wild " + wild, x.months(wild), Due.BEYOND);
        }
    }

    private static void frightInMonths() {
        ShornYear x = Due.told("ewe fright 99; lamb fright 99; pet fright 99; black fright 99; ram fright 99");
        x.weather(0, 0);
        x.months(1);
        Due.is("ewe", x.fleece(0, 0), 1);
        Due.is("no more than it grows", x.fleece(1, 0), 0);
        Due.is("pet", x.fleece(2, 0), 0);
        Due.is("black", x.fleece(3, 0), 13);
        Due.is("ram", x.fleece(4, 0), 14);
        Due.is("calmer ewe", x.of(0, 1), 89);
        Due.is("calmer lamb", x.of(1, 1), 94);
        Due.is("calmer pet", x.of(2, 1), 84);
        Due.is("calmer black", x.of(3, 1), 79);
        Due.is("calmer ram", x.of(4, 1), 79);
        x.months(4);
        Due.is("ram is calm, not less", x.of(4, 1), 0);
        Due.is("ewe, 5 behind", x.of(0, 1), 49);
        Due.is("ewe loses by fright as it was", x.fleece(0, 4), 14 - 5);
    }

    private static void shearing() {
        ShornYear x = Due.told("black; ewe; lamb");
        x.months(5);
        // BURRS go by the weather as it is in June.
        x.weather(0, 0);
        x.weather(1, -9);
        x.months(1);
        Due.is("rough 0", x.monthOf(0, 2), 3 + 0 + 0);
        Due.is("rough 1", x.monthOf(1, 2), 4 + 1 + 0);
        Due.is("rough 5", x.monthOf(5, 2), 3);
        Due.is("rough 6", x.monthOf(6, 2), 0);
        Due.is("store 0 by the weather it grew in", x.monthOf(0, 1), 19 + 16 + 8);
        for (int m = 0; m < 12; m++) {
            Due.all("bare", 0, x.fleece(0, m), x.fleece(1, m), x.fleece(2, m));
        }
        ShornYear y = Due.told("ewe fright 99; mild 0 0");
        y.months(1);
        y.weather(0, -9);
        y.months(5);
        Due.is("one of wool", y.monthOf(0, 1), 1);
        Due.is("has burrs", y.monthOf(0, 2), 1);
        x.weather(7, 11);
        x.months(12);
        Due.is("black has no 7", x.monthOf(7, 1), 10 + 5);
        Due.is("and no burrs of it", x.monthOf(7, 2), 0);
        Due.is("others have", x.monthOf(6, 2), 3);
    }

    private static void lastMonth() {
        ShornYear x = Due.told("ewe");
        for (int i = 0; i < 166; i++) {
            x.months(60);
        }
        Due.is("month", x.now(0), 9960);
        Due.is("too far", x.months(40), Due.STATE);
        Due.is("beyond is asked first", x.months(61), Due.BEYOND);
        Due.is("nothing changed", x.now(0), 9960);
        x.months(39);
        Due.is("the last", x.now(0), 9999);
        Due.is("of the year", x.now(1), 3);
        Due.is("one more", x.months(1), Due.STATE);
        Due.is("status state", x.status(4), 2);
        Due.is("AHEAD goes on", x.on(0, 2, 0), x.of(0, 2) + 10 + 14);
        int june = x.monthOf(5, 1);
        Due.is("to June", x.then(5, 3, 0), june + 11);
        Due.is("and is enough", x.enough(5, june + 11), 3);
    }

    private static void caps() {
        ShornYear x = new ShornYear();
        for (int i = 0; i < 8; i++) {
            x.ewe(Due.BLACK);
        }
        x.weather(0, -20);
        // 8 times 23 a June in STORE, 8 times 4 in ROUGH.
        for (int i = 0; i < 53; i++) {
            x.months(12);
        }
        Due.is("store below", x.monthOf(0, 1), 53 * 184);
        Due.is("rough below", x.monthOf(0, 2), 53 * 32);
        x.months(12);
        Due.is("store 54", x.monthOf(0, 1), 54 * 184);
        x.months(12);
        Due.is("store at most", x.monthOf(0, 1), 9999);
        for (int i = 0; i < 256; i++) {
            x.months(12);
        }
        Due.is("rough of 311", x.monthOf(0, 2), 311 * 32);
        x.months(24);
        Due.is("rough at most", x.monthOf(0, 2), 9999);
        // Of 3 (weather 9) black ones grow no more wool at 14, nor burrs.
        Due.is("of much rough the least too", x.milder(12), 3);
        Due.is("store still at most", x.monthOf(0, 1), 9999);
    }

    private static void on() {
        ShornYear x = Due.told("ewe fright 45; lamb fright 12");
        int[] wool = {0, 12, 21, 29, 38, 52, 0, 10};
        int[] fright = {45, 35, 25, 15, 5, 0, 0, 0};
        for (int n = 0; n < wool.length; n++) {
            Due.is("wool in " + n, x.on(0, n, 0), wool[n]);
            Due.is("fright in " + n, x.on(0, n, 1), fright[n]);
        }
        Due.is("lamb", x.on(1, 2, 0), 6 + 6);
        Due.is("lamb's fright", x.on(1, 2, 1), 2);
        Due.is("lamb's fright ends", x.on(1, 3, 1), 0);
        Due.is("120 are ten years", x.on(0, 120, 0), 141 - 73);
        x.months(3);
        Due.is("now", x.on(0, 0, 0), 29);
        Due.is("from now on", x.on(0, 2, 0), 52);
        Due.is("a year from now", x.on(0, 12, 0), 68 + 38);
        Due.all("beyond", Due.BEYOND, x.on(-1, 0, 0), x.on(2, 0, 0), x.on(0, -1, 0), x.on(0, 121, 0),
            x.on(0, 0, -1), x.on(0, 0, 2));
        for (int wild : Due.WILD) {
            Due.all("on, wild " + wild, Due.BEYOND, x.on(wild, 0, 0), x.on(0, wild, 0), x.on(0, 0, wild));
        }
    }

    private static void then() {
        ShornYear x = Due.told("ewe; ram; store 0 5; store 1 9998");
        Due.is("now", x.then(0, 0, 0), 5);
        Due.is("before June", x.then(0, 5, 0), 5);
        Due.is("in June", x.then(0, 6, 0), 5 + 36);
        Due.is("rough before", x.then(0, 5, 1), 0);
        Due.is("rough in June", x.then(0, 6, 1), 3);
        Due.is("at most", x.then(1, 6, 0), 9999);
        Due.is("120 have ten Junes", x.then(0, 120, 0), 5 + 360);
        Due.is("rough of ten", x.then(0, 120, 1), 30);
        Due.is("month 11 has nine", x.then(11, 120, 0), 9 * 34);
        x.months(7);
        Due.is("11 on is June", x.then(11, 11, 0), 34);
        Due.is("10 on is not", x.then(11, 10, 0), 0);
        Due.all("beyond", Due.BEYOND, x.then(-1, 0, 0), x.then(12, 0, 0), x.then(0, -1, 0), x.then(0, 121, 0),
            x.then(0, 0, -1), x.then(0, 0, 2));
        for (int wild : Due.WILD) {
            Due.all("then, wild " + wild, Due.BEYOND, x.then(wild, 0, 0), x.then(0, wild, 0), x.then(0, 0, wild));
        }
    }

    private static void enough() {
        ShornYear x = Due.told("ewe; store 2 50");
        Due.is("none is wanted", x.enough(0, 0), 0);
        Due.is("there is", x.enough(2, 50), 0);
        Due.is("one more", x.enough(2, 51), 6);
        Due.is("just 60", x.enough(2, 60), 6);
        Due.is("61", x.enough(2, 61), 18);
        Due.is("ten times", x.enough(0, 160), 114);
        Due.is("eleven times", x.enough(0, 161), Due.NONE);
        x.months(6);
        Due.is("from now on", x.enough(0, 160), 108);
        Due.is("120 count", x.enough(0, 176), 120);
        Due.is("121 don't", x.enough(0, 177), Due.NONE);
        Due.is("9999", x.enough(0, 9999), Due.NONE);
        Due.is("status none", x.status(3), 3);
        Due.all("beyond", Due.BEYOND, x.enough(-1, 0), x.enough(12, 0), x.enough(0, -1), x.enough(0, 10000));
        for (int wild : Due.WILD) {
            Due.all("enough, wild " + wild, Due.BEYOND, x.enough(wild, 0), x.enough(0, wild));
        }
    }

    private static void calm() {
        int[][] due = {
            {0, 1, 1, 2, 10}, {0, 1, 1, 1, 5}, {0, 1, 2, 3, 20},
            {0, 1, 1, 2, 10}, {0, 1, 1, 1, 5}, {0, 1, 1, 1, 7},
        };
        int[] frights = {0, 1, 10, 11, 99};
        ShornYear x = new ShornYear();
        for (int k = 0; k < 6; k++) {
            x.ewe(k);
            for (int i = 0; i < frights.length; i++) {
                x.scare(k, frights[i]);
                Due.is("calm of kind " + k + " by " + frights[i], x.calm(k), due[k][i]);
            }
        }
        Due.all("beyond", Due.BEYOND, x.calm(-1), x.calm(6), x.calm(8));
        for (int wild : Due.WILD) {
            Due.is("calm, wild " + wild, x.calm(wild), Due.BEYOND);
        }
    }

    private static void aheadChangesNothing() {
        ShornYear x = Due.told("ewe fright 77; black; store 3 9; cut 0 3 4");
        x.months(3);
        x.on(0, 50, 0);
        x.then(3, 70, 1);
        x.enough(3, 9000);
        x.calm(0);
        x.kind(0, 60);
        x.cold(3, 60, 9000);
        x.best(1, 1);
        x.bears(0, 60, 1188);
        x.milder(60);
        x.warmest();
        x.sheet(0, 64, 40);
        x.book(0, 1);
        x.read(0, 0);
        Due.is("month", x.now(0), 3);
        Due.is("kind", x.of(0, 0), 0);
        Due.is("fright", x.of(0, 1), 47);
        Due.is("wool", x.now(5), 9 + 6 + 5 + 19 + 15 + 13);
        Due.is("store", x.now(3), 5);
        Due.is("rough", x.now(4), 0);
        Due.is("coat", x.coatOf(0, 2), 4);
        Due.is("weather", x.monthOf(3, 0), 109);
    }
}
