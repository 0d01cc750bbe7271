/** Promises 20 to 25: kind, cold, best, bears, milder, warmest. */
public final class BestTest {
    public static void main(String[] args) {
        kind();
        kindOfFullStore();
        cold();
        coldOfBlack();
        best();
        bears();
        milder();
        warmest();
        Due.end();
    }

    private static void kind() {
        ShornYear x = Due.told("lamb; ewe");
        Due.is("a ram", x.kind(0, 6), Due.RAM);
        Due.is("before June all are as one", x.kind(0, 5), Due.EWE);
        Due.is("of the other", x.kind(1, 60), Due.RAM);
        ShornYear y = Due.told("wether fright 99");
        for (int m = 0; m < 12; m++) {
            y.weather(m, 20);
        }
        y.months(5);
        // Its FLEECE stays as it grew; only June is still to come.
        Due.is("June alone", y.kind(0, 1), Due.RAM);
        ShornYear z = Due.told("ewe; store 0 9999; store 1 9999; store 2 9999; store 3 9999; store 4 9999; store 5 9999");
        Due.is("nothing fits: the least", z.kind(0, 6), Due.EWE);
        ShornYear b = Due.told("black");
        b.months(6);
        Due.is("as black least of ram and black", b.kind(0, 12), Due.RAM);
        Due.all("beyond", Due.BEYOND, b.kind(-1, 1), b.kind(1, 1), b.kind(0, 0), b.kind(0, 61));
        for (int wild : Due.WILD) {
            Due.all("kind, wild " + wild, Due.BEYOND, b.kind(wild, 1), b.kind(0, wild));
        }
    }

    /** All months but the first are full, so that it goes by those alone that share in what is left of that one. */
    private static ShornYear nearlyFull(String text, int ofTheFirst) {
        ShornYear x = Twin.told(text);
        for (int m = 0; m < 12; m++) {
            Twin.text(x, "store " + m + " " + (m == 0 ? ofTheFirst : 9999));
        }
        return x;
    }

    private static void kindOfFullStore() {
        ShornYear alone = nearlyFull("ewe", 9980);
        Due.is("19 are left, of which an EWE has 16", alone.kind(0, 6), Due.RAM);
        ShornYear two = nearlyFull("ewe;ewe", 9980);
        Due.is("the other has 16 of them", two.kind(0, 6), Due.EWE);
        Due.is("of the other", two.kind(1, 6), Due.EWE);
        ShornYear uneven = nearlyFull("ram;lamb fright 45", 9979);
        Due.is("the RAM has all 20", uneven.kind(1, 6), Due.EWE);
        Due.is("but only as a RAM", uneven.kind(0, 6), Due.RAM);
        ShornYear grown = nearlyFull("ewe", 9980);
        grown.months(1);
        Due.is("16 are on it already", grown.kind(0, 18), Due.EWE);
        ShornYear frightened = nearlyFull("ewe fright 99", 9990);
        Due.is("9 are left, a frightened EWE has 7", frightened.kind(0, 6), Due.RAM);
        frightened.scare(0, 79);
        Due.is("one less frightened has 9", frightened.kind(0, 6), Due.EWE);
    }

    private static void cold() {
        ShornYear x = Due.told("ewe");
        Due.is("any will do", x.cold(0, 6, 10), 20);
        Due.is("one more", x.cold(0, 6, 11), -2);
        Due.is("12", x.cold(0, 6, 12), -4);
        Due.is("20", x.cold(0, 6, 20), -20);
        Due.is("21", x.cold(0, 6, 21), Due.NONE);
        Due.is("no June", x.cold(0, 5, 1), Due.NONE);
        Due.is("none is wanted", x.cold(0, 5, 0), 20);
        Due.is("in one month", x.cold(0, 1, 0), 20);
        Due.is("two Junes", x.cold(0, 18, 21), -2);
        Due.is("five Junes", x.cold(0, 60, 100), -20);
        x.months(1);
        Due.is("what has grown stays", x.cold(0, 5, 16), 20);
        Due.is("so it is", x.cold(0, 5, 17), Due.NONE);
        Due.is("status none", x.status(3), 3);
        Due.all("beyond", Due.BEYOND, x.cold(-1, 1, 0), x.cold(12, 1, 0), x.cold(0, 0, 0), x.cold(0, 61, 0),
            x.cold(0, 1, -1), x.cold(0, 1, 10000));
        for (int wild : Due.WILD) {
            Due.all("cold, wild " + wild, Due.BEYOND, x.cold(wild, 1, 0), x.cold(0, wild, 0), x.cold(0, 1, wild));
        }
    }

    private static void coldOfBlack() {
        ShornYear x = Due.told("black");
        Due.is("up to 10", x.cold(3, 6, 13), 10);
        Due.is("colder", x.cold(3, 6, 14), -2);
        Due.is("none of it", x.cold(3, 6, 0), 20);
    }

    private static void best() {
        ShornYear x = Due.told("store 2 10; store 7 10; store 8 10; store 11 10");
        Due.is("a cold one", x.best(0, 10), 8);
        Due.is("one too many", x.best(0, 11), Due.NONE);
        x.cut(0, 8, 1);
        Due.is("the next cold one", x.best(0, 10), 11);
        x.cut(0, 11, 1);
        Due.is("a middling one", x.best(0, 10), 2);
        x.cut(0, 2, 1);
        Due.is("a mild one", x.best(0, 10), 7);
        Due.is("of the cold ones the least", x.best(1, 9), 8);
        ShornYear y = Due.told("store 0 2000; store 7 5; store 9 1; cut 0 0 999");
        Due.is("no room for cold", y.best(0, 1), 9);
        Due.is("another coat has", y.best(1, 1), 0);
        Due.is("999", y.best(1, 999), 0);
        y.cut(0, 9, 1);
        Due.is("half of one is none, but it may", y.best(0, 1), 7);
        ShornYear z = Due.told("store 6 5; store 7 5; cut 0 7 1; mild 6 11");
        Due.is("an odd one makes a whole", z.best(0, 1), 7);
        Due.is("not in another coat", z.best(1, 1), 6);
        ShornYear o = Due.told("store 6 5; store 7 5; cut 1 7 1; mild 6 11");
        Due.is("nor in the first by the second", o.best(0, 1), 6);
        Due.is("but in the second", o.best(1, 1), 7);
        ShornYear r = Due.told("black; cold 1 12");
        r.months(5);
        r.weather(1, -8);
        r.months(1);
        Due.is("ROUGH of 0 is more", r.monthOf(0, 2) - r.monthOf(1, 2), 1);
        Due.is("but the least is best", r.best(0, 19), 0);
        ShornYear h = Due.told("store 2 5; store 9 600; cut 0 9 500");
        Due.is("what it has already makes none better", h.best(0, 5), 2);
        Due.is("status none", x.status(3), 1);
        Due.all("beyond", Due.BEYOND, x.best(-1, 1), x.best(4, 1), x.best(0, 0), x.best(0, 1000));
        for (int wild : Due.WILD) {
            Due.all("best, wild " + wild, Due.BEYOND, x.best(wild, 1), x.best(0, wild));
        }
    }

    private static void bears() {
        ShornYear x = Due.told("ewe; lamb; ram");
        Due.is("all", x.bears(0, 1, 16), 9);
        Due.is("one less", x.bears(0, 1, 15), 19);
        Due.is("none is wanted", x.bears(0, 1, 0), 99);
        Due.is("too much", x.bears(0, 1, 17), Due.NONE);
        Due.is("two months", x.bears(0, 2, 27), 19);
        Due.is("lamb", x.bears(1, 1, 4), 29);
        Due.is("ram", x.bears(2, 5, 82), 99);
        Due.is("shorn", x.bears(0, 6, 1), Due.NONE);
        Due.is("shorn of none", x.bears(0, 6, 0), 99);
        Due.is("60", x.bears(0, 60, 68), 99);
        x.months(2);
        Due.is("now", x.bears(0, 0, 28), 99);
        Due.is("now too much", x.bears(0, 0, 29), Due.NONE);
        Due.is("1188 may be asked", x.bears(0, 0, 1188), Due.NONE);
        Due.is("status none", x.status(3), 4);
        Due.all("beyond", Due.BEYOND, x.bears(-1, 0, 0), x.bears(3, 0, 0), x.bears(0, -1, 0), x.bears(0, 61, 0),
            x.bears(0, 0, -1), x.bears(0, 0, 1189));
        for (int wild : Due.WILD) {
            Due.all("bears, wild " + wild, Due.BEYOND, x.bears(wild, 0, 0), x.bears(0, wild, 0), x.bears(0, 0, wild));
        }
    }

    private static void milder() {
        ShornYear x = Due.told("ewe");
        // Month 0 (-12) comes to -7 and month 4 (-9) to -4: both are then no longer rough.
        Due.is("the least of two", x.milder(6), 0);
        Due.is("in one month none is rough", x.milder(1), 0);
        x.weather(0, -14);
        Due.is("-9 is still rough", x.milder(6), 4);
        x.weather(0, -13);
        Due.is("-8 is not", x.milder(6), 0);
        x.weather(0, 20);
        x.weather(4, 20);
        Due.is("11 is not there by June", x.milder(6), 0);
        Due.is("but later", x.milder(18), 11);
        ShornYear y = Due.told("black; cold 0 20; cold 4 0; cold 11 0; mild 2 10");
        // Month 2 at 15 grows no wool of a black one, so it has no burrs of it either.
        Due.is("mild is bare", y.milder(6), 2);
        ShornYear z = Due.told("black; mild 0 20; mild 1 20; cold 4 0; mild 2 16; mild 3 6");
        Due.is("20 at most, 11 is bare", z.milder(6), 3);
        Due.all("beyond", Due.BEYOND, z.milder(0), z.milder(-1), z.milder(61));
        for (int wild : Due.WILD) {
            Due.is("milder, wild " + wild, z.milder(wild), Due.BEYOND);
        }
    }

    private static void warmest() {
        ShornYear x = Due.told("store 0 10; store 2 20; store 7 99; cut 1 2 10; cut 2 0 6; cut 3 7 20");
        Due.is("12 of cold wool", x.warmest(), 2);
        x.weather(0, 0);
        Due.is("10 of middling, the least", x.warmest(), 1);
        x.weather(2, 11);
        Due.is("10 by half", x.warmest(), 3);
        Due.is("no coat", new ShornYear().warmest(), 0);
        Due.is("no finding", x.status(-1), 0);
    }
}
