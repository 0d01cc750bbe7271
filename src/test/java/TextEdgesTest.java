/** The bounds of promises 26 to 28 and of THE TEXT of a PARISH: feed, wipe, parish. */
public final class TextEdgesTest {
    public static void main(String[] args) {
        feedSizes();
        feedAnyBytes();
        feedFull();
        feedOrder();
        wipe();
        emptyTexts();
        longestTexts();
        placesAtTheEnd();
        endsTooEarly();
        frightNumbers();
        weatherNumbers();
        storeNumbers();
        cutNumbers();
        cutByStore();
        cutByCoat();
        numbersAtMost();
        tokensAsLongAsCanBe();
        blanks();
        wordsNearlyRight();
        bytesThatBeginNoToken();
        signs();
        tooMuch();
        ninth();
        faultTakesAllBack();
        Due.end();
    }

    /** A text that comes: how many ITEMS, no finding, and an empty tape. */
    private static ShornYear comes(String text, int items, Twin.Made made) {
        ShornYear x = made.now();
        x.wipe();
        int before = x.status(-1);
        Due.is("'" + text + "'", Twin.text(x, text), items);
        Due.is("'" + text + "', then bytes", x.count(1), 0);
        Due.is("'" + text + "', then status", x.status(-1), before);
        return x;
    }

    private static ShornYear comes(String text, int items) {
        return comes(text, items, Twin::parish);
    }

    /** "With a FAULT: -1 less its place (nothing changes but that THE TAPE is empty; no finding)." */
    private static void fault(String text, int place, Twin.Made made) {
        ShornYear x = made.now();
        ShornYear y = made.now();
        x.wipe();
        y.wipe();
        Due.is("'" + text + "'", Twin.text(x, text), -1 - place);
        Due.is("'" + text + "', then bytes", x.count(1), 0);
        Due.is("'" + text + "', then status", x.status(-1), y.status(-1));
        Twin.same("'" + text + "'", x, y);
    }

    private static void fault(String text, int place) {
        fault(text, place, Twin::parish);
    }

    private static String blanks(int n) {
        return " ".repeat(n);
    }

    private static ShornYear withBytes(int n) {
        ShornYear x = Twin.parish();
        x.wipe();
        Twin.lay(x, blanks(n));
        return x;
    }

    /** "(n 1 to 4)", "BEYOND: n." */
    private static void feedSizes() {
        Twin.range("feed, n", 1, 4, Twin::parish, (x, v) -> x.feed('a', v));
        ShornYear x = new ShornYear();
        Due.is("1", x.feed('a', 1), 1);
        Due.is("2", x.feed('a', 2), 3);
        Due.is("3", x.feed('a', 3), 6);
        Due.is("4", x.feed('a', 4), 10);
    }

    /** "the n lowest bytes of a number .., the highest of these first": any number will do. */
    private static void feedAnyBytes() {
        int ewe = 'e' << 16 | 'w' << 8 | 'e';
        for (int high : new int[] {0, 1, 0x7f, 0x80, 0xff}) {
            ShornYear x = new ShornYear();
            Due.is("three bytes", x.feed(high << 24 | ewe, 3), 3);
            Due.is("the highest is left out", x.parish(), 1);
            Due.is("two bytes", x.feed(high << 24 | 0x7f0000 | 'r' << 8 | 'a', 2), 2);
            Due.is("one byte", x.feed(high << 24 | 0xffff00 | 'm', 1), 3);
            Due.is("the highest first", x.parish(), 1);
            Due.is("a ram", x.of(1, 0), Due.RAM);
        }
        // Four bytes behind 'ewe;', of which the first is no blank, letter or digit.
        int[] ends = {Integer.MIN_VALUE, Integer.MAX_VALUE, -1, 0, Integer.MIN_VALUE + 1, Integer.MAX_VALUE - 1};
        for (int bytes : ends) {
            ShornYear x = new ShornYear();
            Twin.lay(x, "ewe;");
            Due.is("four bytes of " + bytes, x.feed(bytes, 4), 8);
            Due.is("its first is the FAULT", x.parish(), -5);
        }
        ShornYear y = new ShornYear();
        y.feed('p' << 24 | 'e' << 16 | 't' << 8 | ';', 4);
        y.feed(ewe, 3);
        Due.is("four and three", y.parish(), 2);
    }

    /** "THE TAPE (bytes, at most 120)", "FULL." */
    private static void feedFull() {
        for (int n = 1; n <= 4; n++) {
            int many = n;
            for (int had = 117; had <= 120; had++) {
                int bytes = had;
                if (had + n <= 120) {
                    Due.is(n + " behind " + had, withBytes(had).feed('a', n), had + n);
                } else {
                    Twin.refused(n + " behind " + had, Due.FULL, () -> withBytes(bytes), x -> x.feed('a', many));
                }
            }
            Due.is("up to 120", withBytes(120 - n).feed('a', n), 120);
        }
        Twin.refused("any bytes", Due.FULL, () -> withBytes(120), x -> x.feed(Integer.MIN_VALUE, 1));
    }

    /** BEYOND is asked before FULL. */
    private static void feedOrder() {
        for (int n : new int[] {0, -1, 5, Integer.MIN_VALUE, Integer.MAX_VALUE, Integer.MAX_VALUE - 119}) {
            Twin.refused(n + " behind 120", Due.BEYOND, () -> withBytes(120), x -> x.feed(0, n));
            Twin.refused(n + " behind none", Due.BEYOND, ShornYear::new, x -> x.feed(0, n));
        }
    }

    /** "THE TAPE is empty: how many it had." */
    private static void wipe() {
        for (int n : new int[] {0, 1, 119, 120}) {
            ShornYear x = withBytes(n);
            Due.is("had", x.wipe(), n);
            Due.is("has", x.count(1), 0);
            Due.is("had then", x.wipe(), 0);
            Due.is("feed then", x.feed('a', 1), 1);
        }
    }

    /** "or how many bytes there are if it ends too early": of no bytes 0. */
    private static void emptyTexts() {
        fault("", 0);
        fault(" ", 1);
        fault("   ", 3);
        fault(blanks(119), 119);
        fault(blanks(120), 120);
    }

    /** Texts of just 120 bytes. */
    private static void longestTexts() {
        comes(blanks(117) + "ewe", 1);
        comes("ewe" + blanks(117), 1);
        String cuts = "cut0 0 0;".repeat(13);
        comes(cuts.substring(0, 116), 13);
        comes(cuts + "ewe", 14);
        String eight = "ewe;".repeat(8);
        comes(eight + "cut0 0 0;".repeat(9) + "cold0 0", 18, ShornYear::new);
        comes("store 0 " + "0".repeat(108) + "9999", 1);
        comes("store 0" + blanks(109) + "9999", 1);
    }

    /** FAULTS at the last bytes of a full tape. */
    private static void placesAtTheEnd() {
        fault(blanks(119) + ";", 119);
        fault(blanks(119) + "e", 119);
        fault(blanks(116) + "ewe;", 120);
        fault(blanks(116) + "ewee", 116);
        fault("ewe" + blanks(116) + ";", 120);
        fault("ewe" + blanks(116) + "#", 119);
        fault("store 0 " + "9".repeat(112), 8);
        fault("a".repeat(120), 0);
        fault("7".repeat(120), 0);
        fault(";".repeat(120), 0);
    }

    /** Each ITEM, left off behind each of its TOKENS. */
    private static void endsTooEarly() {
        String[] whole = {"ewe fright", "cold", "cold 1", "mild", "mild 1", "cut", "cut 1", "cut 1 3", "store", "store 1",
            "ewe;", "cold 1 2;", "cut 1 3 1;", "store 1 1;"};
        for (String text : whole) {
            fault(text, text.length());
            fault(text + "  ", text.length() + 2);
            fault("pet; " + text, text.length() + 5);
        }
        for (String text : new String[] {"cold", "cold 1", "cut 1 3", "store 1", "ewe fright"}) {
            fault(text + ";ewe", text.length());
            fault(text + " ewe", text.length() + 1);
        }
    }

    /** "perhaps fright and a NUMBER (0 to 99)". */
    private static void frightNumbers() {
        String[] names = {"ewe", "ram", "lamb", "wether", "black", "pet"};
        for (int k = 0; k < 6; k++) {
            int behind = (names[k] + " fright ").length();
            ShornYear none = comes(names[k], 1);
            Due.is("KIND", none.of(2, 0), k);
            Due.is("FRIGHT", none.of(2, 1), 0);
            Due.is("FLEECE", none.of(2, 2), 0);
            Due.is("least", comes(names[k] + " fright 0", 1).of(2, 1), 0);
            Due.is("most", comes(names[k] + " fright 99", 1).of(2, 1), 99);
            fault(names[k] + " fright 100", behind);
            fault(names[k] + " fright 9999", behind);
            fault(names[k] + " fright 10000", behind);
        }
    }

    /** "cold or mild, a NUMBER (a month of the year), a NUMBER (0 to 20)". */
    private static void weatherNumbers() {
        for (int m = 0; m < 12; m += 11) {
            Due.is("cold 0", comes("cold " + m + " 0", 1).monthOf(m, 0), 100);
            Due.is("cold 20", comes("cold " + m + " 20", 1).monthOf(m, 0), 80);
            Due.is("mild 0", comes("mild " + m + " 0", 1).monthOf(m, 0), 100);
            Due.is("mild 20", comes("mild " + m + " 20", 1).monthOf(m, 0), 120);
        }
        for (String name : new String[] {"cold ", "mild "}) {
            fault(name + "12 0", 5);
            fault(name + "12 21", 5);
            fault(name + "9999 0", 5);
            fault(name + "10000 0", 5);
            fault(name + "0 21", 7);
            fault(name + "11 21", 8);
            fault(name + "0 9999", 7);
            fault(name + "0 -1", 7);
        }
    }

    /** "store, a NUMBER (a month of the year), a NUMBER (0 to 9999): STORE of it is that." */
    private static void storeNumbers() {
        for (int m = 0; m < 12; m += 11) {
            Due.is("none", comes("store " + m + " 0", 1).monthOf(m, 1), 0);
            Due.is("most", comes("store " + m + " 9999", 1).monthOf(m, 1), 9999);
            Due.is("less than before", comes("store " + m + " 9999;store " + m + " 1", 2).monthOf(m, 1), 1);
        }
        fault("store 12 0", 6);
        fault("store 9999 0", 6);
        fault("store 0 10000", 8);
        fault("store 11 10000", 9);
        fault("store 0 99990", 8);
    }

    /** "cut, three NUMBERS (a coat; a month of the year; ..)". */
    private static void cutNumbers() {
        Twin.Made rich = () -> Twin.told("store 0 9999;store 11 9999");
        Due.is("the first", comes("cut 0 0 1", 1, rich).coatOf(0, 3), 1);
        Due.is("the last", comes("cut 3 11 1", 1, rich).coatOf(3, 3), 2048);
        Due.is("999", comes("cut 3 11 999", 1, rich).coatOf(3, 2), 999);
        fault("cut 4 0 1", 4, rich);
        fault("cut 9999 0 1", 4, rich);
        fault("cut 10000 0 1", 4, rich);
        fault("cut 0 12 1", 6, rich);
        fault("cut 3 9999 1", 6, rich);
        fault("cut 0 0 1000", 8, rich);
        fault("cut 3 11 9999", 9, rich);
        fault("cut 3 11 10000", 9, rich);
        ShornYear none = comes("cut 3 11 0", 1, rich);
        Due.is("none of it", none.coatOf(3, 3), 0);
        Due.is("STORE of it", none.monthOf(11, 1), 9999);
    }

    /** "no more than STORE has of it by then". */
    private static void cutByStore() {
        Twin.Made poor = () -> Twin.told("store 4 7");
        ShornYear x = comes("cut 1 4 7", 1, poor);
        Due.is("all of it", x.coatOf(1, 2), 7);
        Due.is("nothing is left", x.monthOf(4, 1), 0);
        fault("cut 1 4 8", 8, poor);
        fault("cut 1 5 1", 8, poor);
        comes("cut 1 5 0", 1, poor);
        comes("cut 1 4 3;cut 2 4 4", 2, poor);
        fault("cut 1 4 3;cut 2 4 5", 18, poor);
        comes("store 4 8;cut 1 4 8", 2, poor);
        fault("store 4 6;cut 1 4 7", 18, poor);
        fault("cut 1 4 8;store 4 9", 8, poor);
        comes("store 4 9;cut 1 4 9;store 4 9;cut 1 4 9", 4, poor);
    }

    /** "nor than to 999 in that coat". */
    private static void cutByCoat() {
        Twin.Made nearly = () -> Twin.told("store 4 9999;cut 1 4 990");
        Due.is("just full", comes("cut 1 4 9", 1, nearly).coatOf(1, 2), 999);
        fault("cut 1 4 10", 8, nearly);
        comes("cut 2 4 10", 1, nearly);
        comes("cut 1 4 4;cut 1 4 5", 2, nearly);
        fault("cut 1 4 4;cut 1 4 6", 18, nearly);
        comes("cut 1 4 9;cut 1 4 0", 2, nearly);
        fault("cut 1 4 9;cut 1 4 1", 18, nearly);
        comes("store 3 9;cut 1 3 9", 2, nearly);
    }

    /** "NUMBERS (digits, 9999 at most)": none wraps around. */
    private static void numbersAtMost() {
        String[] great = {"10000", "65536", "65537", "4294967296", "4294967297", "2147483648", "18446744073709551616",
            "18446744073709551617", "99999999999999999999999999999999"};
        for (String number : great) {
            fault("store 0 " + number, 8);
            fault("store " + number + " 0", 6);
            fault("cold 1 " + number, 7);
            fault("cut " + number + " 0 0", 4);
            fault("ewe fright " + number, 11);
            fault(number, 0);
            fault("ewe " + number, 4);
        }
        comes("store 0 09999", 1);
        comes("store 0 0000000000000000000000000", 1);
        fault("store 0 010000", 8);
    }

    /** "TOKENS, each as long as can be". */
    private static void tokensAsLongAsCanBe() {
        fault("eweram", 0);
        fault("ewefright 5", 0);
        fault("ewes", 0);
        fault("ewea", 0);
        fault("ewez", 0);
        fault("aewe", 0);
        fault("zewe", 0);
        fault("ewe0", 3);
        fault("ewe9", 3);
        fault("blackpet", 0);
        fault("coldmild 1 2", 0);
        fault("ewe frights 5", 4);
        fault("ewe5", 3);
        fault("cold12", 4);
        fault("cold115", 4);
        fault("cold1", 5);
        comes("cold1 2", 1);
        comes("ewe fright9;pet", 2);
        fault("ewe fright9pet", 11);
        comes("store3 7;cut0 3 7", 2);
        fault("store3 7cut0 3 7", 8);
    }

    /** "blanks may stand between": or not, where the TOKENS are apart without them. */
    private static void blanks() {
        comes("ewe;ewe", 2);
        comes(" ewe ; ewe ", 2);
        comes("   ewe   ;   ewe   ", 2);
        comes("ewe fright 9 ;cold  1  2", 2);
        fault("e we", 0);
        fault("cold 1 2 0", 9);
        fault("store 0 1 000", 10);
    }

    private static void wordsNearlyRight() {
        String[] wrong = {"ew", "we", "eve", "ewf", "fwe", "ra", "ran", "lam", "lambs", "wethe", "wethers", "weather", "blac",
            "blacks", "pe", "pets", "col", "colds", "mil", "milds", "cu", "cuts", "stor", "stores", "fright", "a", "z"};
        for (String word : wrong) {
            fault(word, 0);
            fault(word + " 1 1", 0);
            fault("ewe; " + word, 5);
        }
        fault("ewe frigh 5", 4);
        fault("ewe ewe", 4);
        fault("ewe store 1 1", 4);
        fault("cold cold", 5);
        fault("cold 1 mild", 7);
    }

    /** "a byte that begins no TOKEN". */
    private static void bytesThatBeginNoToken() {
        for (int b = 0; b < 256; b++) {
            boolean letter = b >= 'a' && b <= 'z';
            boolean digit = b >= '0' && b <= '9';
            if (letter || digit || b == ' ' || b == ';') {
                continue;
            }
            String sign = String.valueOf((char) b);
            fault(sign, 0);
            fault("ewe" + sign, 3);
            fault("cold 1 2" + sign, 8);
            fault("ewe;" + sign + "ram", 4);
        }
        fault("ewe;Ram", 4);
        fault("eWe", 0);
        fault("store 0 1.5", 9);
        fault("store 0 -1", 8);
        fault("store 0 +1", 8);
    }

    /** "ITEM { ; ITEM }". */
    private static void signs() {
        fault(";", 0);
        fault(" ;", 1);
        fault(";ewe", 0);
        fault("ewe;;ram", 4);
        fault("ewe; ;ram", 5);
        fault("ewe;ram;", 8);
        fault("ewe ram", 4);
        fault("ewe fright;5", 10);
        fault("cold 1;2", 6);
    }

    /** A TOKEN behind a whole ITEM, where only a SIGN can stand. */
    private static void tooMuch() {
        fault("ewe 5", 4);
        fault("ewe fright 5 5", 13);
        fault("ewe fright 5 fright 5", 13);
        fault("cold 1 2 3", 9);
        fault("store 1 2 3", 10);
        fault("cut 1 3 4 5", 10);
        fault("cut 1 3 4 ewe", 10);
    }

    /** "the name of a KIND for a 9th: its own". */
    private static void ninth() {
        String[] names = {"ewe", "ram", "lamb", "wether", "black", "pet"};
        for (String name : names) {
            fault(name, 0, Twin::full);
            fault(name + " fright 5", 0, Twin::full);
            fault(name + " fright 100", 0, Twin::full);
            fault("cold 1 2; " + name, 10, Twin::full);
        }
        comes("cold 1 2;store 0 5;cut 0 0 5", 3, Twin::full);
        fault("hen", 0, Twin::full);
        fault("cold 1 21;ewe", 7, Twin::full);
        comes("ewe;ewe;ewe;ewe;ewe;ewe", 6);
        fault("ewe;ewe;ewe;ewe;ewe;ewe;ewe", 24);
        comes("ewe;ewe;ewe;ewe;ewe;ewe;ewe;ewe", 8, ShornYear::new);
        fault("ewe;ewe;ewe;ewe;ewe;ewe;ewe;ewe;pet", 32, ShornYear::new);
    }

    /** "nothing changes but that THE TAPE is empty": not by ITEMS that stand before the FAULT, either. */
    private static void faultTakesAllBack() {
        fault("ram fright 9;cold 9 7;store 0 9;cut 0 0 5;hen", 42);
        fault("ram;store 3 9999;cut 0 3 999;cut 0 3 1", 37);
        fault("mild 9 20;cold 9 20;ewe;ewe;ewe;ewe;ewe;ewe;ewe", 44);
        ShornYear x = Twin.parish();
        x.wipe();
        Due.is("a fault", Twin.text(x, "pet;hen"), -5);
        Due.is("then no text", x.parish(), -1);
        Due.is("then a good one", Twin.text(x, "pet"), 1);
        Due.is("how many", x.count(0), 3);
    }
}
