/** Promises 26 to 28: feed, wipe, parish. */
public final class TextTest {
    public static void main(String[] args) {
        feed();
        wipe();
        items();
        itemsInTheirOrder();
        tokens();
        faults();
        numbers();
        ninth();
        faultChangesNothing();
        everyByte();
        Due.end();
    }

    private static void feed() {
        ShornYear x = new ShornYear();
        Due.all("beyond", Due.BEYOND, x.feed(0, 0), x.feed(0, -1), x.feed(0, 5));
        for (int wild : Due.WILD) {
            Due.is("feed, wild " + wild, x.feed(0, wild), Due.BEYOND);
        }
        Due.is("1", x.feed(0xffffff65, 1), 1);
        Due.is("2", x.feed(0xffff7765, 2), 3);
        Due.is("3", x.feed(0xff3b7261, 3), 6);
        Due.is("4", x.feed(0x6d3b7065, 4), 10);
        Due.is("1 more", x.feed('t', 1), 11);
        Due.is("bytes", x.count(1), 11);
        Due.is("the highest first", x.parish(), 3);
        Due.is("kinds", x.of(0, 0) * 100 + x.of(1, 0) * 10 + x.of(2, 0), 15);
        for (int i = 0; i < 29; i++) {
            x.feed(0x20202020, 4);
        }
        Due.is("118", x.feed(0x2020, 2), 118);
        Due.is("4 more are too many", x.feed(0, 4), Due.FULL);
        Due.is("3 more are too many", x.feed(0, 3), Due.FULL);
        Due.is("beyond is asked first", x.feed(0, 5), Due.BEYOND);
        Due.is("nothing came", x.count(1), 118);
        Due.is("2 more", x.feed(0x2020, 2), 120);
        Due.is("one too many", x.feed(0x20, 1), Due.FULL);
        Due.is("status full", x.status(1), 3);
        Due.is("ends too early", x.parish(), -121);
    }

    private static void wipe() {
        ShornYear x = new ShornYear();
        Due.is("empty", x.wipe(), 0);
        Due.lay(x, "ewe");
        Due.is("three", x.wipe(), 3);
        Due.is("empty again", x.count(1), 0);
        Due.is("nothing is read", x.parish(), -1);
        Due.lay(x, "ram");
        Due.is("what comes behind it", x.parish(), 1);
    }

    private static void items() {
        ShornYear x = new ShornYear();
        Due.is("kinds", Due.parish(x, "ewe;ram;lamb;wether;black;pet fright 99;ewe fright 0"), 7);
        for (int e = 0; e < 7; e++) {
            Due.is("kind of " + e, x.of(e, 0), e % 6);
            Due.is("fright of " + e, x.of(e, 1), e == 5 ? 99 : 0);
            Due.is("wool of " + e, x.of(e, 2), 0);
        }
        Due.is("the tape is empty", x.count(1), 0);
        Due.is("weather", Due.parish(x, "cold 0 0;cold 1 20;mild 11 20;mild 10 0"), 4);
        Due.is("cold 0", x.monthOf(0, 0), 100);
        Due.is("cold 20", x.monthOf(1, 0), 80);
        Due.is("mild 20", x.monthOf(11, 0), 120);
        Due.is("mild 0", x.monthOf(10, 0), 100);
        Due.is("store and cut", Due.parish(x, "store 0 9999;store 11 5;store 11 0;cut 3 0 999;cut 0 11 0"), 5);
        Due.is("store 0", x.monthOf(0, 1), 9000);
        Due.is("store 11", x.monthOf(11, 1), 0);
        Due.is("coat 3", x.coatOf(3, 2), 999);
        Due.is("a cut of 0", x.coatOf(0, 3), 0);
        Due.is("no findings", x.status(-1), 0);
    }

    private static void itemsInTheirOrder() {
        ShornYear x = new ShornYear();
        Due.is("store then cut", Due.parish(x, "store 4 7;cut 1 4 7"), 2);
        Due.is("cut then store", Due.parish(x, "cut 1 4 1;store 4 7"), -9);
        Due.is("twice", Due.parish(x, "store 4 7;cut 1 4 4;cut 1 4 4"), -1 - 28);
        Due.is("room in the coat", Due.parish(x, "store 4 9000;cut 1 4 993"), -1 - 21);
        Due.is("just room", Due.parish(x, "store 4 9000;cut 1 4 992"), 2);
        Due.is("full", Due.parish(x, "cut 1 4 0;cut 1 4 1"), -1 - 18);
        Due.is("coat 1", x.coatOf(1, 2), 999);
        Due.is("the latest weather", Due.parish(x, "cold 2 3;mild 2 4"), 2);
        Due.is("is 4", x.monthOf(2, 0), 104);
    }

    private static void tokens() {
        ShornYear x = new ShornYear();
        Due.is("no blanks", Due.parish(x, "ewe;cold0 5;ram fright7"), 3);
        Due.is("all together", Due.parish(x, "store3 9;mild 4 5;cut0 3 9"), 3);
        Due.is("many blanks", Due.parish(x, "   ewe   fright   5   ;   pet   "), 2);
        Due.is("a word is as long as can be", Due.parish(x, "ewefright 5"), -1);
        Due.is("a number too", Due.parish(x, "cold 12"), -6);
        Due.is("a number before a word", Due.parish(x, "ewe fright 5ram"), -1 - 12);
        Due.is("leading naughts", Due.parish(x, "cold 0000011 00020"), 1);
        Due.is("month 11", x.monthOf(11, 0), 80);
        Due.is("many naughts", Due.parish(x, "mild 3 0000000000000000000000000000000000000000000000007"), 1);
        Due.is("month 3", x.monthOf(3, 0), 107);
    }

    private static void faults() {
        String[] texts = {"", " ", "ewe;", "ewe; ", ";", ";ewe", "ewe;;ram", "ewe ram", "ewe 5", "ewe fright",
            "ewe fright ram", "ewe fright 100", "ewe fright 5 5", "Ewe", "ewE", "ew", "ewes", "5", "fright 5",
            "cold", "cold x", "cold 12 0", "cold 0", "cold 0 21", "cold 0 ;", "cold 0 5 5", "cold -5 1",
            "mild 0 21", "mild 12", "cut", "cut 4 0 0", "cut 0 12 0", "cut 0 0 1", "cut 0 0", "cut 0 0 0 0",
            "store", "store 12 0", "store 0 10000", "store 0", "store 0 5,", "ewe.", "#", "ewe fright 99 ;  mil 0 0",
            "ewe\n", "\tewe", "cold;", "hen; ewe", "ewe;hen;#", "ewe fright99x",
            "pwe", "lack", "mold 0 0", "ewe wright 5", "eve", "cut 0", "cut 0;", "mild 0", "store 0;"};
        int[] places = {0, 1, 4, 5, 0, 0, 4, 4, 4, 10,
            11, 11, 13, 0, 0, 0, 0, 0, 0,
            4, 5, 5, 6, 7, 7, 9, 5,
            7, 5, 3, 4, 6, 8, 7, 10,
            5, 6, 8, 7, 9, 3, 0, 17,
            3, 0, 4, 0, 4, 12,
            0, 0, 0, 4, 0, 5, 5, 6, 7};
        for (int i = 0; i < texts.length; i++) {
            ShornYear x = new ShornYear();
            Due.is("'" + texts[i] + "'", Due.parish(x, texts[i]), -1 - places[i]);
            Due.is("the tape behind '" + texts[i] + "'", x.count(1), 0);
            Due.is("no ewes came", x.count(0), 0);
            Due.is("a fault is no finding", x.status(-1), 0);
        }
    }

    private static void numbers() {
        ShornYear x = new ShornYear();
        Due.is("9999", Due.parish(x, "store 0 9999"), 1);
        Due.is("10000", Due.parish(x, "store 0 10000"), -9);
        // Each of these would be small if it wrapped around at 32 or 64 bits.
        Due.is("2^32", Due.parish(x, "store 0 4294967296"), -9);
        Due.is("2^32 + 5", Due.parish(x, "cold 4294967301 0"), -6);
        Due.is("2^64", Due.parish(x, "store 0 18446744073709551616"), -9);
        Due.is("many", Due.parish(x, "ewe fright 99999999999999999999999999999999999999999999"), -12);
        Due.is("a number of no place", Due.parish(x, "10000"), -1);
    }

    private static void ninth() {
        ShornYear x = new ShornYear();
        Due.is("eight", Due.parish(x, "ewe;ewe;ewe;ewe;ewe;ewe;ewe;ewe"), 8);
        Due.is("a ninth", Due.parish(x, "cold 0 1; ram fright 200"), -1 - 10);
        Due.is("other items", Due.parish(x, "cold 0 1"), 1);
        ShornYear y = new ShornYear();
        Due.is("nine", Due.parish(y, "ewe;ewe;ewe;ewe;ewe;ewe;ewe;ewe;pet"), -1 - 32);
        Due.is("none came", y.count(0), 0);
        y.ewe(0);
        Due.is("eight more", Due.parish(y, "ewe;ewe;ewe;ewe;ewe;ewe;ewe;ewe"), -1 - 28);
        Due.is("one is", y.count(0), 1);
    }

    private static void faultChangesNothing() {
        ShornYear x = Due.told("ewe fright 40; store 0 50; cut 0 0 10");
        x.months(2);
        Due.is("a fault at last", Due.parish(x, "ram; cold 5 7; store 0 9; cut 1 0 5; hen"), -1 - 37);
        Due.is("ewes", x.count(0), 1);
        Due.is("weather", x.monthOf(5, 0), 98);
        Due.is("store", x.monthOf(0, 1), 40);
        Due.is("coats", x.count(2), 1);
        Due.is("fright", x.of(0, 1), 20);
        Due.is("wool", x.of(0, 2), 12 + 9);
        Due.is("month", x.now(0), 2);
        Due.is("and then a good one", Due.parish(x, "ram"), 1);
        Due.is("the new one is bare", x.of(1, 2), 0);
        Due.is("the old one is not", x.of(0, 2), 12 + 9);
    }

    private static void everyByte() {
        for (int b = 0; b < 256; b++) {
            ShornYear x = new ShornYear();
            Due.lay(x, "ewe");
            x.feed(b, 1);
            boolean isLetter = b >= 'a' && b <= 'z';
            int due = b == ' ' ? 1 : b == ';' ? -5 : isLetter ? -1 : -4;
            Due.is("ewe and byte " + b, x.parish(), due);
            x.feed(b, 1);
            Due.is("byte " + b, x.parish(), b == ' ' ? -2 : -1);
        }
    }
}
