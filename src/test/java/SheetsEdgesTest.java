/** The bounds of promises 29 to 34: sheet, write, copy, lays, book, read. */
public final class SheetsEdgesTest {
    private static final int LEAST = Integer.MIN_VALUE;
    private static final int MOST = Integer.MAX_VALUE;

    public static void main(String[] args) {
        sheet();
        sheetBits();
        sheetSizes();
        sheetOrder();
        sheetMissing();
        sheetAnew();
        write();
        writeOrder();
        writeBits();
        copy();
        copyNumbers();
        copyOrder();
        copyOfNone();
        copyToItself();
        copyWhole();
        lays();
        laysBounds();
        laysLong();
        book();
        bookEnds();
        bookBits();
        read();
        readEnds();
        readNumbers();
        Due.end();
    }

    private static ShornYear withSheets(int bits, int size) {
        ShornYear x = new ShornYear();
        for (int s = 0; s < 4; s++) {
            x.sheet(s, bits, size);
            for (int i = 0; i < size && s < 2; i++) {
                x.write(s, i, 10 * s + i);
            }
        }
        return x;
    }

    /** A parish, none of whose sheets is MISSING. */
    private static ShornYear withAllSheets() {
        ShornYear x = Twin.parish();
        x.sheet(3, 64, 3);
        return x;
    }

    /** "SHEETS 0 to 3", "BEYOND: no such sheet". */
    private static void sheet() {
        Twin.range("sheet", 0, 3, Twin::parish, (x, v) -> x.sheet(v, 8, 5));
        Twin.range("sheet that goes", 0, 3, Twin::parish, (x, v) -> x.sheet(v, 0, 5));
    }

    /** "of 8, 16 or 64 bits; bits 0: it is MISSING", "BEYOND: .. other bits". */
    private static void sheetBits() {
        for (int bits : new int[] {8, 16, 64}) {
            ShornYear x = Twin.parish();
            Due.is("of " + bits, x.sheet(3, bits, 7), 7);
            Due.is("no finding", x.status(-1), 0);
        }
        int[] wrong = {LEAST, LEAST + 8, -64, -16, -8, -1, 1, 4, 7, 9, 15, 17, 24, 32, 63, 65, 128, 256, 264, 65536 + 8,
            (1 << 30) + 16, MOST};
        for (int bits : wrong) {
            Twin.refused("bits " + bits, Due.BEYOND, Twin::parish, x -> x.sheet(0, bits, 5));
            Twin.refused("bits " + bits + " of none", Due.BEYOND, Twin::parish, x -> x.sheet(3, bits, 0));
        }
    }

    /** "SIZE: n is below 0 (also with bits 0). BEYOND: n is above 40 (also with bits 0)." */
    private static void sheetSizes() {
        for (int b : new int[] {0, 8, 16, 64}) {
            for (int n : new int[] {0, 1, 39, 40}) {
                ShornYear x = Twin.parish();
                Due.is("bits " + b + ", n " + n, x.sheet(0, b, n), b == 0 ? 0 : n);
                Due.is("no finding", x.status(-1), 0);
            }
            for (int n : new int[] {-1, -2, -40, -256, LEAST + 1, LEAST}) {
                Twin.refused("bits " + b + ", n " + n, Due.SIZE, Twin::parish, x -> x.sheet(0, b, n));
            }
            for (int n : new int[] {41, 42, 256, 65536, 1 << 30, MOST - 1, MOST}) {
                Twin.refused("bits " + b + ", n " + n, Due.BEYOND, Twin::parish, x -> x.sheet(0, b, n));
            }
        }
    }

    /** The sheet and the bits are asked before SIZE. */
    private static void sheetOrder() {
        Twin.refused("no sheet, no size", Due.BEYOND, Twin::parish, x -> x.sheet(4, 8, -1));
        Twin.refused("no sheet below, no size", Due.BEYOND, Twin::parish, x -> x.sheet(-1, 0, -1));
        Twin.refused("no bits, no size", Due.BEYOND, Twin::parish, x -> x.sheet(0, 9, -1));
        Twin.refused("all wrong", Due.BEYOND, Twin::parish, x -> x.sheet(LEAST, LEAST, LEAST));
    }

    /** "bits 0: it is MISSING: n (0 if it is MISSING)". */
    private static void sheetMissing() {
        for (int n : new int[] {0, 5, 40}) {
            ShornYear x = Twin.parish();
            Due.is("n " + n, x.sheet(0, 0, n), 0);
            Due.is("write", x.write(0, 0, 1), Due.MISSING);
            Due.is("again", x.sheet(0, 0, n), 0);
            Due.is("another is not", x.write(1, 0, 1), 4);
            Due.is("it comes back", x.sheet(0, 8, 3), 3);
            Due.is("all 0", x.write(0, 0, 1), 0);
        }
    }

    /** "A sheet has n numbers, all 0". */
    private static void sheetAnew() {
        ShornYear x = Twin.parish();
        x.sheet(0, 64, 40);
        for (int i = 0; i < 40; i++) {
            Due.is("number " + i, x.write(0, i, -1), 0);
        }
        Due.is("no number 40", x.write(0, 40, -1), Due.BEYOND);
        x.sheet(0, 64, 1);
        Due.is("number 0 anew", x.write(0, 0, -1), 0);
        Due.is("no number 1", x.write(0, 1, -1), Due.BEYOND);
        x.sheet(0, 64, 40);
        Due.is("number 1 anew", x.write(0, 1, 0), 0);
        Due.is("number 39 anew", x.write(0, 39, 0), 0);
    }

    /** "BEYOND: no such sheet.", "BEYOND: no such number." */
    private static void write() {
        Twin.range("write, sheet", 0, 3, () -> withSheets(16, 5), (x, v) -> x.write(v, 0, 9));
        Twin.range("write of 3", 0, 2, Twin::parish, (x, v) -> x.write(0, v, 9));
        Twin.range("write of 1", 0, 0, () -> withSheets(64, 1), (x, v) -> x.write(0, v, 9));
        Twin.range("write of 40", 0, 39, () -> withSheets(64, 40), (x, v) -> x.write(3, v, 9));
        for (int i : new int[] {0, -1, 1, LEAST, MOST}) {
            Twin.refused("number " + i + " of none", Due.BEYOND, () -> withSheets(8, 0), x -> x.write(0, i, 9));
        }
    }

    /** "BEYOND: no such sheet. MISSING. BEYOND: no such number." */
    private static void writeOrder() {
        for (int i : new int[] {0, -1, 40, LEAST, MOST}) {
            Twin.refused("MISSING, number " + i, Due.MISSING, Twin::parish, x -> x.write(3, i, 9));
            Twin.refused("no sheet, number " + i, Due.BEYOND, Twin::parish, x -> x.write(4, i, 9));
        }
    }

    /** "becomes v (its lowest bits): what it was". */
    private static void writeBits() {
        long[] numbers = {0, 1, -1, 127, 128, -128, -129, 255, 256, 32767, 32768, -32768, -32769, 65535, 65536, MOST, LEAST,
            1L + MOST, -1L + LEAST, 1L << 32, Long.MAX_VALUE, Long.MAX_VALUE - 1, Long.MIN_VALUE, Long.MIN_VALUE + 1};
        long[] of8 = {0, 1, -1, 127, -128, -128, 127, -1, 0, -1, 0, 0, -1, -1, 0, -1, 0, 0, -1, 0, -1, -2, 0, 1};
        long[] of16 = {0, 1, -1, 127, 128, -128, -129, 255, 256, 32767, -32768, -32768, 32767, -1, 0, -1, 0, 0, -1, 0, -1, -2,
            0, 1};
        for (int i = 0; i < numbers.length; i++) {
            becomes(8, numbers[i], of8[i]);
            becomes(16, numbers[i], of16[i]);
            becomes(64, numbers[i], numbers[i]);
        }
    }

    private static void becomes(int bits, long v, long due) {
        ShornYear x = new ShornYear();
        x.sheet(1, bits, 3);
        Due.is("what it was", x.write(1, 1, v), 0);
        Due.is(v + " in " + bits + " bits", x.write(1, 1, 0), due);
        Due.is("the one before", x.write(1, 0, 0), 0);
        Due.is("the one behind", x.write(1, 2, 0), 0);
    }

    /** "BEYOND: no such sheet (either)." */
    private static void copy() {
        Twin.range("copy from a sheet", 0, 3, () -> withSheets(16, 5), (x, v) -> x.copy(v, 0, 1, 0, 2));
        Twin.range("copy to a sheet", 0, 3, () -> withSheets(16, 5), (x, v) -> x.copy(1, 0, v, 0, 2));
    }

    /** "BEYOND: one has not so many, or from, to or n is below 0." */
    private static void copyNumbers() {
        Twin.Made made = () -> {
            ShornYear x = withSheets(16, 5);
            x.sheet(2, 16, 3);
            return x;
        };
        Twin.range("from, of 5", 0, 3, made, (x, v) -> x.copy(0, v, 1, 0, 2));
        Twin.range("to, of 5", 0, 3, made, (x, v) -> x.copy(0, 0, 1, v, 2));
        Twin.range("n, of 5", 0, 5, made, (x, v) -> x.copy(0, 0, 1, 0, v));
        Twin.range("n, behind 2 of 5", 0, 3, made, (x, v) -> x.copy(0, 2, 1, 0, v));
        Twin.range("n, to behind 2 of 5", 0, 3, made, (x, v) -> x.copy(0, 0, 1, 2, v));
        Twin.range("n, 5 to 3", 0, 3, made, (x, v) -> x.copy(0, 0, 2, 0, v));
        Twin.range("n, 3 to 5", 0, 3, made, (x, v) -> x.copy(2, 0, 0, 0, v));
        int[][] sums = {{MOST, 0, MOST}, {0, MOST, MOST}, {1, 0, MOST}, {0, 1, MOST}, {MOST, MOST, 2}, {LEAST, LEAST, LEAST},
            {MOST, 0, 1}, {-1, 0, 0}, {0, -1, 0}, {-1, -1, 2}, {1, 1, LEAST}, {LEAST, 0, MOST}};
        for (int[] sum : sums) {
            Twin.refused("from " + sum[0] + " to " + sum[1] + " of " + sum[2], Due.BEYOND, made,
                x -> x.copy(0, sum[0], 1, sum[1], sum[2]));
        }
    }

    /** "BEYOND: no such sheet (either). MISSING: one is. KIND: they are not of as many bits. BEYOND: .." */
    private static void copyOrder() {
        Twin.refused("no sheet, MISSING", Due.BEYOND, Twin::parish, x -> x.copy(3, 0, 4, 0, 1));
        Twin.refused("MISSING, no sheet", Due.BEYOND, Twin::parish, x -> x.copy(-1, 0, 3, 0, 1));
        Twin.refused("from MISSING", Due.MISSING, Twin::parish, x -> x.copy(3, 0, 0, 0, 1));
        Twin.refused("to MISSING", Due.MISSING, Twin::parish, x -> x.copy(0, 0, 3, 0, 1));
        Twin.refused("both MISSING", Due.MISSING, Twin::parish, x -> x.copy(3, 0, 3, 0, 0));
        Twin.refused("MISSING, not so many", Due.MISSING, Twin::parish, x -> x.copy(3, -1, 0, 0, -1));
        Twin.refused("8 to 16", Due.KIND, Twin::parish, x -> x.copy(0, 0, 2, 0, 1));
        Twin.refused("16 to 8", Due.KIND, Twin::parish, x -> x.copy(2, 0, 0, 0, 1));
        Twin.refused("8 to 16, none", Due.KIND, Twin::parish, x -> x.copy(0, 0, 2, 0, 0));
        Twin.refused("8 to 16, not so many", Due.KIND, Twin::parish, x -> x.copy(0, 9, 2, -1, LEAST));
        Twin.refused("8 to 8, not so many", Due.BEYOND, Twin::parish, x -> x.copy(0, 0, 1, 0, 3));
        Twin.refused("64 to 16", Due.KIND, SheetsEdgesTest::withAllSheets, x -> x.copy(3, 0, 2, 0, 1));
        Twin.refused("8 to 64", Due.KIND, SheetsEdgesTest::withAllSheets, x -> x.copy(0, 0, 3, 0, 1));
    }

    /** No numbers: from anywhere that there is, to anywhere that there is. */
    private static void copyOfNone() {
        Twin.looks("from the first", 0, () -> withSheets(8, 5), x -> x.copy(0, 0, 1, 0, 0));
        Twin.looks("from behind the last", 0, () -> withSheets(8, 5), x -> x.copy(0, 5, 1, 5, 0));
        Twin.refused("from farther on", Due.BEYOND, () -> withSheets(8, 5), x -> x.copy(0, 6, 1, 0, 0));
        Twin.refused("to farther on", Due.BEYOND, () -> withSheets(8, 5), x -> x.copy(0, 0, 1, 6, 0));
        Twin.looks("of empty sheets", 0, () -> withSheets(8, 0), x -> x.copy(0, 0, 1, 0, 0));
        Twin.refused("one of empty sheets", Due.BEYOND, () -> withSheets(8, 0), x -> x.copy(0, 0, 1, 0, 1));
        Twin.refused("behind empty sheets", Due.BEYOND, () -> withSheets(8, 0), x -> x.copy(0, 1, 1, 0, 0));
    }

    /** "(as they all were)". */
    private static void copyToItself() {
        ShornYear up = withSheets(8, 5);
        Due.is("onward", up.copy(1, 0, 1, 1, 4), 4);
        holds(up, 1, 10, 10, 11, 12, 13);
        ShornYear down = withSheets(8, 5);
        Due.is("back", down.copy(1, 1, 1, 0, 4), 4);
        holds(down, 1, 11, 12, 13, 14, 14);
        ShornYear same = withSheets(8, 5);
        Due.is("onto itself", same.copy(1, 0, 1, 0, 5), 5);
        holds(same, 1, 10, 11, 12, 13, 14);
    }

    private static void copyWhole() {
        ShornYear x = withSheets(64, 40);
        x.write(0, 0, Long.MIN_VALUE);
        x.write(0, 39, Long.MAX_VALUE);
        Due.is("all 40", x.copy(0, 0, 3, 0, 40), 40);
        Due.is("the first", x.write(3, 0, 0), Long.MIN_VALUE);
        Due.is("the last", x.write(3, 39, 0), Long.MAX_VALUE);
        Due.is("from the first", x.write(0, 0, 0), Long.MIN_VALUE);
        ShornYear y = withSheets(16, 5);
        Due.is("the last to the first", y.copy(0, 4, 1, 0, 1), 1);
        holds(y, 1, 4, 11, 12, 13, 14);
        Due.is("the first to the last", y.copy(0, 0, 1, 4, 1), 1);
        holds(y, 1, 4, 11, 12, 13, 0);
        holds(y, 0, 0, 1, 2, 3, 4);
    }

    private static void holds(ShornYear x, int s, long... due) {
        for (int i = 0; i < due.length; i++) {
            long was = x.write(s, i, 0);
            Due.is("number " + i + " of " + s, was, due[i]);
            x.write(s, i, was);
        }
    }

    /** "BEYOND: no such sheet. MISSING." */
    private static void lays() {
        Twin.range("lays", 0, 3, () -> withSheets(16, 5), (x, v) -> x.lays(v));
        Twin.refused("lays of MISSING", Due.MISSING, Twin::parish, x -> x.lays(3));
        Twin.looks("lays of none", 0, () -> withSheets(8, 0), x -> x.lays(0));
    }

    /** "(those that aren't -20 to 20 .. are left out): how many came". */
    private static void laysBounds() {
        long[] good = {-20, -19, 0, 19, 20};
        long[] left = {-21, 21, 100, -100, MOST, LEAST, 1L << 32, (1L << 32) + 5, 5 - (1L << 32), Long.MAX_VALUE,
            Long.MIN_VALUE, Long.MIN_VALUE + 5};
        for (int m = 0; m < 12; m += 11) {
            for (long v : good) {
                ShornYear x = withSheets(64, 12);
                x.sheet(2, 64, 12);
                x.write(2, m, v);
                Due.is("all came", x.lays(2), 12);
                Due.is(v + " came", x.monthOf(m, 0), 100 + v);
                Due.is("the others are 0", x.monthOf(5, 0), 100);
            }
            for (long v : left) {
                ShornYear x = withSheets(64, 12);
                x.write(2, m, v);
                x.weather(m, 7);
                Due.is("one did not come", x.lays(2), 11);
                Due.is(v + " is left out", x.monthOf(m, 0), 107);
                Due.is("the others came", x.monthOf(5, 0), 100);
                Due.is("it is no finding", x.status(-1), 0);
            }
        }
        ShornYear y = new ShornYear();
        y.sheet(0, 8, 2);
        y.write(0, 0, 236);
        y.write(0, 1, 235);
        Due.is("8 bits", y.lays(0), 1);
        Due.is("236 is -20 there", y.monthOf(0, 0), 80);
        Due.is("235 is -21 there", y.monthOf(1, 0), 95);
    }

    /** "(those that .. stand for none, are left out)". */
    private static void laysLong() {
        for (int n : new int[] {1, 11, 12, 13, 40}) {
            ShornYear x = new ShornYear();
            x.sheet(0, 16, n);
            for (int i = 0; i < n; i++) {
                x.write(0, i, i < 12 ? i : -20);
            }
            Due.is("of " + n + " came", x.lays(0), Math.min(12, n));
            Due.is("the first", x.monthOf(0, 0), 100);
            Due.is("the last", x.monthOf(11, 0), n < 12 ? 90 : 111);
        }
    }

    /** "BEYOND: no such sheet. MISSING. BEYOND: ewe." */
    private static void book() {
        Twin.range("book, sheet", 0, 3, SheetsEdgesTest::withAllSheets, (x, v) -> x.book(v, 0));
        Twin.range("book, ewe of two", 0, 1, Twin::parish, (x, v) -> x.book(0, v));
        Twin.range("book, ewe of eight", 0, 7, Twin::full, (x, v) -> x.book(2, v));
        for (int e : new int[] {0, -1, 2, LEAST, MOST}) {
            Twin.refused("MISSING, ewe " + e, Due.MISSING, Twin::parish, x -> x.book(3, e));
            Twin.refused("no sheet, ewe " + e, Due.BEYOND, Twin::parish, x -> x.book(4, e));
        }
    }

    /** "as many as it has numbers: how many". */
    private static void bookEnds() {
        Twin.Made empty = () -> {
            ShornYear x = Twin.parish();
            x.sheet(0, 8, 0);
            return x;
        };
        Twin.looks("none", 0, empty, x -> x.book(0, 0));
        Twin.refused("none, of no ewe", Due.BEYOND, empty, x -> x.book(0, 2));
        ShornYear one = Twin.told("ewe");
        one.months(1);
        one.sheet(0, 16, 1);
        Due.is("one", one.book(0, 0), 1);
        holds(one, 0, 16);
        ShornYear x = Twin.told("ewe");
        x.sheet(0, 16, 40);
        x.sheet(1, 16, 40);
        Due.is("forty", x.book(0, 0), 40);
        for (int i = 0; i < 40; i++) {
            long was = x.write(0, i, 0);
            Due.is("number " + i, was, x.on(0, i, 0));
        }
        Due.is("the other sheet", x.write(1, 1, 0), 0);
        Due.is("MONTH", x.now(0), 0);
        Due.is("wool", x.of(0, 2), 0);
        ShornYear last = Twin.inMonth(9999);
        last.sheet(0, 16, 5);
        Due.is("past the last MONTH", last.book(0, 0), 5);
        Due.is("wool in June", last.write(0, 3, 0), 0);
        Due.is("wool behind June", last.write(0, 4, 0), 10);
    }

    /** Only the lowest bits of the wool come. */
    private static void bookBits() {
        ShornYear x = Twin.told("ram");
        for (int m = 0; m < 12; m++) {
            x.weather(m, -20);
        }
        x.months(6);
        x.sheet(0, 8, 12);
        x.sheet(1, 16, 12);
        x.book(0, 0);
        x.book(1, 0);
        holds(x, 0, 0, 24, 48, 72, 96, 120, -112, -88, -64, -40, -16, 8);
        holds(x, 1, 0, 24, 48, 72, 96, 120, 144, 168, 192, 216, 240, 264);
    }

    /** "BEYOND: no such sheet. MISSING. BEYOND: ewe." */
    private static void read() {
        Twin.range("read, sheet", 0, 3, SheetsEdgesTest::withAllSheets, (x, v) -> x.read(v, 0));
        Twin.range("read, ewe of two", 0, 1, Twin::parish, (x, v) -> x.read(0, v));
        Twin.range("read, ewe of eight", 0, 7, Twin::full, (x, v) -> x.read(2, v));
        for (int e : new int[] {0, -1, 2, LEAST, MOST}) {
            Twin.refused("MISSING, ewe " + e, Due.MISSING, Twin::parish, x -> x.read(3, e));
            Twin.refused("no sheet, ewe " + e, Due.BEYOND, Twin::parish, x -> x.read(-1, e));
        }
    }

    /** "how many pairs of a KIND and FRIGHT (0 to 99)": none to 600. */
    private static void readEnds() {
        Twin.looks("no numbers", 600, () -> alone(0), x -> x.read(0, 0));
        Twin.looks("now", 600, () -> alone(1), x -> x.read(0, 0));
        Twin.looks("now it is not 1", 0, () -> alone(1, 1), x -> x.read(0, 0));
        // In a month of 0: EWE 10 to 1, RAM 14, LAMB 5, 3, 1, 0, WETHER 12 to 3, BLACK 13, PET 11, 11, 9, .. 1, 0.
        Twin.looks("14", 100, () -> alone(2, 0, 14), x -> x.read(0, 0));
        Twin.looks("13", 100, () -> alone(2, 0, 13), x -> x.read(0, 0));
        Twin.looks("12", 10, () -> alone(2, 0, 12), x -> x.read(0, 0));
        Twin.looks("11", 30, () -> alone(2, 0, 11), x -> x.read(0, 0));
        Twin.looks("10", 20, () -> alone(2, 0, 10), x -> x.read(0, 0));
        Twin.looks("1", 30, () -> alone(2, 0, 1), x -> x.read(0, 0));
        Twin.looks("0", 70 + 30, () -> alone(2, 0, 0), x -> x.read(0, 0));
        Twin.looks("15", 0, () -> alone(2, 0, 15), x -> x.read(0, 0));
        Twin.looks("-1", 0, () -> alone(2, 0, -1), x -> x.read(0, 0));
        Twin.looks("of a sheet that June ends", 10, () -> booked(7), x -> x.read(0, 0));
        Twin.looks("of 40", 10, () -> booked(40), x -> x.read(0, 0));
    }

    private static ShornYear alone(int size, long... numbers) {
        ShornYear x = Twin.told("wether fright 31;mild 0 0");
        x.sheet(0, 64, size);
        for (int i = 0; i < numbers.length; i++) {
            x.write(0, i, numbers[i]);
        }
        return x;
    }

    private static ShornYear booked(int size) {
        ShornYear x = Twin.told("ewe");
        x.sheet(0, 64, size);
        x.book(0, 0);
        return x;
    }

    /** A number must be the wool itself, at whichever place it stands. */
    private static void readNumbers() {
        long[] wrong = {-1, (1L << 32) + 16, 16 - (1L << 32), 16 + Long.MIN_VALUE, 256 + 16, 65536 + 16, Long.MIN_VALUE,
            Long.MAX_VALUE, LEAST, MOST};
        for (long v : wrong) {
            Twin.looks(v + " is not 16", 0, () -> {
                ShornYear x = booked(40);
                x.write(0, 1, v);
                return x;
            }, x -> x.read(0, 0));
            Twin.looks(v + " at last", 0, () -> {
                ShornYear x = booked(40);
                x.write(0, 39, v);
                return x;
            }, x -> x.read(0, 0));
        }
        ShornYear y = booked(40);
        Due.is("16", y.write(0, 1, 16), 16);
        Due.is("it is", y.read(0, 0), 10);
    }
}
