/** Promises 29 to 34: sheet, write, copy, lays, book, read. */
public final class SheetsTest {
    public static void main(String[] args) {
        sheet();
        write();
        copy();
        copyFindings();
        lays();
        book();
        read();
        readFindings();
        Due.end();
    }

    private static void sheet() {
        ShornYear x = new ShornYear();
        Due.is("8 bits", x.sheet(0, 8, 40), 40);
        Due.is("16 bits", x.sheet(1, 16, 1), 1);
        Due.is("64 bits", x.sheet(2, 64, 0), 0);
        Due.is("missing", x.sheet(3, 0, 40), 0);
        Due.is("it is", x.write(3, 0, 0), Due.MISSING);
        Due.is("none in it, but not missing", x.write(2, 0, 0), Due.BEYOND);
        x.write(0, 5, 77);
        Due.is("anew", x.sheet(0, 8, 40), 40);
        Due.is("all 0", x.write(0, 5, 1), 0);
        Due.is("gone", x.sheet(0, 0, 3), 0);
        Due.is("it is gone", x.write(0, 5, 1), Due.MISSING);
        int before = x.status(0);
        Due.all("beyond", Due.BEYOND, x.sheet(-1, 8, 1), x.sheet(4, 8, 1), x.sheet(0, 1, 1), x.sheet(0, 32, 1),
            x.sheet(0, -8, 1), x.sheet(0, 8, 41), x.sheet(0, 0, 41), x.sheet(4, 8, -1), x.sheet(0, 7, -1));
        Due.is("status beyond", x.status(0) - before, 9);
        Due.all("size", Due.SIZE, x.sheet(0, 8, -1), x.sheet(0, 0, -1), x.sheet(1, 64, Integer.MIN_VALUE));
        Due.is("status size", x.status(6), 3);
        Due.is("sheet 1 stays", x.write(1, 0, 0), 0);
        for (int wild : Due.WILD) {
            Due.all("sheet, wild " + wild, Due.BEYOND, x.sheet(wild, 8, 1), x.sheet(0, wild, 1));
            Due.is("sheet, wild n " + wild, x.sheet(0, 8, wild), wild < 0 ? Due.SIZE : Due.BEYOND);
        }
    }

    private static void write() {
        ShornYear x = new ShornYear();
        x.sheet(0, 8, 3);
        x.sheet(1, 16, 3);
        x.sheet(2, 64, 3);
        long[] given = {127, 128, 255, 256, -1, -129, 32767, 32768, 65535, 1L << 40, Long.MIN_VALUE, Long.MAX_VALUE,
            -1000000001L};
        for (long v : given) {
            x.write(0, 1, v);
            x.write(1, 1, v);
            x.write(2, 1, v);
            Due.is("8 bits of " + v, x.write(0, 1, 0), (byte) v);
            Due.is("16 bits of " + v, x.write(1, 1, 0), (short) v);
            Due.is("64 bits of " + v, x.write(2, 1, 0), v);
        }
        Due.is("a number is no finding", x.status(-1), 0);
        Due.all("beyond", Due.BEYOND, x.write(-1, 0, 0), x.write(4, 0, 0), x.write(0, -1, 0), x.write(0, 3, 0));
        Due.is("missing is asked before the number", x.write(3, -1, 0), Due.MISSING);
        Due.is("status", x.status(0) * 10 + x.status(5), 41);
        for (int wild : Due.WILD) {
            Due.all("write, wild " + wild, Due.BEYOND, x.write(wild, 0, 0), x.write(0, wild, 0));
        }
    }

    private static void fill(ShornYear x, int s, int n) {
        for (int i = 0; i < n; i++) {
            x.write(s, i, i + 1);
        }
    }

    private static void holds(ShornYear x, String text, int s, long... due) {
        for (int i = 0; i < due.length; i++) {
            long was = x.write(s, i, 0);
            Due.is(text + ", number " + i, was, due[i]);
            x.write(s, i, was);
        }
    }

    private static void copy() {
        ShornYear x = new ShornYear();
        x.sheet(0, 16, 5);
        x.sheet(1, 16, 3);
        fill(x, 0, 5);
        Due.is("three", x.copy(0, 2, 1, 0, 3), 3);
        holds(x, "another sheet", 1, 3, 4, 5);
        holds(x, "its own stays", 0, 1, 2, 3, 4, 5);
        Due.is("up", x.copy(0, 0, 0, 1, 4), 4);
        holds(x, "as they all were", 0, 1, 1, 2, 3, 4);
        fill(x, 0, 5);
        Due.is("down", x.copy(0, 1, 0, 0, 4), 4);
        holds(x, "as they all were, down", 0, 2, 3, 4, 5, 5);
        Due.is("none", x.copy(0, 5, 1, 3, 0), 0);
        Due.is("all onto itself", x.copy(0, 0, 0, 0, 5), 5);
        holds(x, "as it was", 0, 2, 3, 4, 5, 5);
    }

    private static void copyFindings() {
        ShornYear x = new ShornYear();
        x.sheet(0, 16, 5);
        x.sheet(1, 16, 3);
        x.sheet(2, 8, 3);
        fill(x, 0, 5);
        Due.all("beyond", Due.BEYOND, x.copy(-1, 0, 0, 0, 0), x.copy(4, 0, 0, 0, 0), x.copy(0, 0, -1, 0, 0),
            x.copy(0, 0, 4, 0, 0), x.copy(3, 0, 4, 0, 0), x.copy(4, 0, 3, 0, 0));
        Due.all("missing", Due.MISSING, x.copy(3, 0, 0, 0, 0), x.copy(0, 0, 3, 0, 0), x.copy(0, -1, 3, 0, 0),
            x.copy(3, 0, 3, 0, 0));
        Due.all("kind", Due.KIND, x.copy(0, 0, 2, 0, 1), x.copy(2, 0, 0, -1, 1));
        Due.all("not so many", Due.BEYOND, x.copy(0, 3, 1, 0, 3), x.copy(0, 0, 1, 1, 3), x.copy(0, 0, 1, 0, 4),
            x.copy(0, -1, 1, 0, 1), x.copy(0, 0, 1, -1, 1), x.copy(0, 0, 1, 0, -1), x.copy(0, 6, 1, 0, 0),
            x.copy(0, 0, 1, 4, 0));
        holds(x, "nothing came", 1, 0, 0, 0);
        Due.is("status", x.status(-1), 20);
        for (int wild : Due.WILD) {
            Due.all("copy, wild " + wild, Due.BEYOND, x.copy(wild, 0, 0, 0, 1), x.copy(0, wild, 0, 0, 1),
                x.copy(0, 0, wild, 0, 1), x.copy(0, 0, 0, wild, 1), x.copy(0, 0, 0, 0, wild), x.copy(0, 1, 0, 1, wild),
                x.copy(0, wild, 0, wild, wild));
        }
    }

    private static void lays() {
        ShornYear x = new ShornYear();
        x.sheet(0, 64, 14);
        long[] numbers = {-20, 20, -21, 21, 0, 1L << 32, Long.MIN_VALUE, 7, -7, Long.MAX_VALUE, 19, 5, 3, 4};
        for (int i = 0; i < numbers.length; i++) {
            x.write(0, i, numbers[i]);
        }
        Due.is("those that came", x.lays(0), 7);
        int[] due = {-20, 20, 2, 9, 0, -2, 5, 7, -7, 1, 19, 5};
        for (int m = 0; m < 12; m++) {
            Due.is("weather of " + m, x.monthOf(m, 0), 100 + due[m]);
        }
        x.sheet(1, 8, 2);
        x.write(1, 0, 256 + 9);
        x.write(1, 1, 250);
        Due.is("two of 8 bits", x.lays(1), 2);
        Due.is("by its lowest bits", x.monthOf(0, 0), 109);
        Due.is("below 0", x.monthOf(1, 0), 94);
        Due.is("others stay", x.monthOf(2, 0), 102);
        x.sheet(1, 8, 0);
        Due.is("none", x.lays(1), 0);
        Due.is("missing", x.lays(2), Due.MISSING);
        Due.all("beyond", Due.BEYOND, x.lays(-1), x.lays(4));
        for (int wild : Due.WILD) {
            Due.is("lays, wild " + wild, x.lays(wild), Due.BEYOND);
        }
    }

    private static void book() {
        ShornYear x = Due.told("ewe fright 45; ewe; pet");
        x.sheet(0, 64, 8);
        Due.is("eight", x.book(0, 0), 8);
        holds(x, "the book", 0, 0, 12, 21, 29, 38, 52, 0, 10);
        Due.is("of another", x.book(0, 1), 8);
        holds(x, "its book", 0, 0, 16, 28, 38, 48, 62, 0, 10);
        x.months(4);
        x.sheet(1, 8, 19);
        x.book(1, 1);
        holds(x, "8 bits", 1, 48, 62, 0, 10, 20, 33, 43, 53, 68, 84, 96, 106, 116, (byte) 130, 0, 10, 20, 33, 43);
        x.sheet(2, 16, 0);
        Due.is("none", x.book(2, 0), 0);
        Due.all("beyond", Due.BEYOND, x.book(-1, 0), x.book(4, 0), x.book(0, -1), x.book(0, 3), x.book(4, 9));
        Due.is("missing is asked before the ewe", x.book(3, 9), Due.MISSING);
        for (int wild : Due.WILD) {
            Due.all("book, wild " + wild, Due.BEYOND, x.book(wild, 0), x.book(0, wild));
        }
    }

    private static void read() {
        ShornYear x = Due.told("ewe; ram; black; wether");
        x.sheet(0, 64, 0);
        Due.is("no numbers", x.read(0, 0), 600);
        x.sheet(0, 64, 1);
        Due.is("now, whatever it is", x.read(0, 0), 600);
        x.write(0, 0, 1);
        Due.is("now it is not", x.read(0, 0), 0);
        x.sheet(0, 64, 2);
        x.book(0, 1);
        Due.is("20 in a month: a ram of any fright", x.read(0, 0), 100);
        x.book(0, 2);
        Due.is("19: a black of any fright", x.read(0, 0), 100);
        x.book(0, 0);
        Due.is("16: an ewe of 0 to 9", x.read(0, 3), 10);
        x.book(0, 3);
        // 12: WETHER of 0 to 9, EWE of 40 to 49, PET (14 less) of 20 to 29.
        Due.is("12: of several kinds", x.read(0, 0), 30);
        x.write(0, 1, 8);
        // 8: EWE of 80 to 89, LAMB of 0 to 9, WETHER of 40 to 49, PET of 40 to 49.
        Due.is("8: of several kinds", x.read(0, 0), 40);
        x.write(0, 1, 0);
        // 0: LAMB of 40 or more, PET of 80 or more.
        Due.is("0: the frightened", x.read(0, 0), 60 + 20);
        x.months(1);
        x.sheet(0, 64, 40);
        x.book(0, 0);
        Due.is("forty of an ewe", x.read(0, 0), 10);
        Due.is("another has other wool", x.read(0, 1), 0);
        x.write(0, 39, -1);
        Due.is("up to the last", x.read(0, 0), 0);
        Due.is("it stays what it was", x.of(0, 0), Due.EWE);
    }

    private static void readFindings() {
        ShornYear x = Due.told("ewe");
        x.sheet(0, 8, 2);
        Due.all("beyond", Due.BEYOND, x.read(-1, 0), x.read(4, 0), x.read(0, -1), x.read(0, 1), x.read(4, 9));
        Due.is("missing is asked before the ewe", x.read(1, 9), Due.MISSING);
        Due.is("status", x.status(0) * 10 + x.status(5), 51);
        for (int wild : Due.WILD) {
            Due.all("read, wild " + wild, Due.BEYOND, x.read(wild, 0), x.read(0, wild));
        }
        ShornYear y = Due.told("ewe");
        y.months(12);
        y.months(5);
        y.sheet(0, 8, 1);
        y.book(0, 0);
        Due.is("130 is not its lowest 8 bits", y.read(0, 0), 0);
        y.sheet(0, 16, 1);
        y.book(0, 0);
        Due.is("16 bits hold it", y.read(0, 0), 600);
    }
}
