/** The bounds of promises 20 to 25: kind, cold, best, bears, milder, warmest. */
public final class BestEdgesTest {
    public static void main(String[] args) {
        kind();
        kindOfSeveral();
        kindWithFullStore();
        kindEnds();
        cold();
        coldEnds();
        coldAtMost();
        best();
        bestOfSeveral();
        bestWhereItMay();
        bestOfNone();
        bears();
        bearsEnds();
        milder();
        milderOfSeveral();
        milderByFive();
        milderEnds();
        warmestOfSeveral();
        Due.end();
    }

    /** "n MONTHS (1 to 60) AHEAD". */
    private static void kind() {
        Twin.range("kind of two", 0, 1, Twin::parish, (x, v) -> x.kind(v, 6));
        Twin.range("kind of eight", 0, 7, Twin::full, (x, v) -> x.kind(v, 6));
        Twin.range("kind, n", 1, 60, Twin::parish, (x, v) -> x.kind(1, v));
    }

    /** "of several the least". */
    private static void kindOfSeveral() {
        for (int k = 0; k < 6; k++) {
            int kind = k;
            Twin.looks("no June yet, " + k, Due.EWE, () -> {
                ShornYear x = new ShornYear();
                x.ewe(kind);
                return x;
            }, x -> x.kind(0, 5));
        }
        // Of June (-2) a RAM has 15 and a BLACK 14; there is room for 9, and the others have less.
        Twin.looks("RAM and BLACK", Due.RAM, () -> atJune("black fright 99;store 5 9990"), x -> x.kind(0, 1));
        Twin.looks("EWE and others", Due.EWE, () -> atJune("black;store 5 9990"), x -> x.kind(0, 1));
        // There is room for 12: an EWE and a PET have 11.
        Twin.looks("RAM, WETHER and BLACK", Due.RAM, () -> atJune("pet;store 5 9987"), x -> x.kind(0, 1));
    }

    private static ShornYear atJune(String text) {
        ShornYear x = new ShornYear();
        x.months(5);
        Twin.text(x, text);
        return x;
    }

    /** "STORE of all months together .. most": what STORE can't take does not count. */
    private static void kindWithFullStore() {
        Twin.looks("no room", Due.EWE, () -> atJune("pet;store 5 9999"), x -> x.kind(0, 1));
        Twin.looks("room for 1", Due.EWE, () -> atJune("pet;store 5 9998"), x -> x.kind(0, 1));
        Twin.looks("room for 15", Due.RAM, () -> atJune("pet;store 5 9984"), x -> x.kind(0, 1));
        Twin.looks("room for 1, of the frightened", Due.EWE, () -> atJune("lamb fright 99;store 5 9998"),
            x -> x.kind(0, 1));
        Twin.looks("room for 3, of the frightened", Due.RAM, () -> atJune("lamb fright 99;store 5 9996"),
            x -> x.kind(0, 1));
    }

    private static void kindEnds() {
        Twin.looks("1 MONTH", Due.RAM, () -> atJune("lamb"), x -> x.kind(0, 1));
        Twin.looks("60 MONTHS", Due.RAM, () -> atJune("lamb"), x -> x.kind(0, 60));
        Twin.looks("the last of eight", Due.RAM, Twin::full, x -> x.kind(7, 60));
    }

    /** "WEATHER (-20 to 20) .. v (0 to 9999) or more n MONTHS (1 to 60) AHEAD". */
    private static void cold() {
        Twin.range("cold, month", 0, 11, Twin::parish, (x, v) -> x.cold(v, 12, 5));
        Twin.range("cold, n", 1, 60, Twin::parish, (x, v) -> x.cold(8, v, 5));
        Twin.range("cold", 0, 9999, Twin::parish, (x, v) -> x.cold(8, 12, v));
        Twin.refused("all wrong", Due.BEYOND, Twin::parish, x -> x.cold(12, 0, -1));
        Twin.refused("BEYOND is asked before NONE", Due.BEYOND, Twin::parish, x -> x.cold(12, 1, 9999));
        Twin.refused("for any n", Due.BEYOND, Twin::parish, x -> x.cold(0, 61, 9999));
        Twin.refused("for any v", Due.BEYOND, ShornYear::new, x -> x.cold(0, 1, 10000));
    }

    /** "The greatest WEATHER", "NONE." */
    private static void coldEnds() {
        Twin.Made one = () -> Twin.told("ewe");
        Twin.looks("10: any", 20, one, x -> x.cold(0, 6, 10));
        Twin.looks("11: below -1", -2, one, x -> x.cold(0, 6, 11));
        Twin.looks("19", -18, one, x -> x.cold(0, 6, 19));
        Twin.looks("20: the coldest", -20, one, x -> x.cold(0, 6, 20));
        Twin.refused("21", Due.NONE, one, x -> x.cold(0, 6, 21));
        Twin.looks("0 in 1 MONTH", 20, one, x -> x.cold(0, 1, 0));
        Twin.refused("1 in 1 MONTH", Due.NONE, one, x -> x.cold(0, 1, 1));
        Twin.refused("1 in 5", Due.NONE, one, x -> x.cold(0, 5, 1));
        Twin.looks("100 in 60", -20, one, x -> x.cold(0, 60, 100));
        Twin.refused("101 in 60", Due.NONE, one, x -> x.cold(0, 60, 101));
        Twin.looks("80 of December in 60", -20, one, x -> x.cold(11, 60, 80));
        Twin.refused("81 of December in 60", Due.NONE, one, x -> x.cold(11, 60, 81));
        Twin.looks("a BLACK one up to 10", 10, () -> Twin.told("black"), x -> x.cold(0, 6, 13));
        Twin.looks("a BLACK one for 1", 10, () -> Twin.told("black"), x -> x.cold(0, 6, 1));
        Twin.looks("a BLACK one for 0", 20, () -> Twin.told("black"), x -> x.cold(0, 6, 0));
    }

    private static void coldAtMost() {
        Twin.looks("9999 is there", 20, () -> Twin.told("store 0 9999"), x -> x.cold(0, 1, 9999));
        Twin.refused("9999 is not", Due.NONE, () -> Twin.told("store 0 9998"), x -> x.cold(0, 60, 9999));
        Twin.looks("9989 and 10", 20, () -> Twin.told("ewe;store 0 9989"), x -> x.cold(0, 6, 9999));
        Twin.looks("9988 and 11", -2, () -> Twin.told("ewe;store 0 9988"), x -> x.cold(0, 6, 9999));
        Twin.looks("9979 and 20", -20, () -> Twin.told("ewe;store 0 9979"), x -> x.cold(0, 6, 9999));
        Twin.refused("9978 and 20", Due.NONE, () -> Twin.told("ewe;store 0 9978"), x -> x.cold(0, 6, 9999));
        Twin.looks("9999 is no more", 20, () -> Twin.told("ewe;ram;store 0 9998"), x -> x.cold(0, 60, 9999));
    }

    /** "CUT n (1 to 999) for a coat". */
    private static void best() {
        Twin.range("best, coat", 0, 3, Twin::parish, (x, v) -> x.best(v, 5));
        Twin.range("best", 1, 999, () -> Twin.told("store 9 999"), (x, v) -> x.best(3, v));
        Twin.range("best of none", 1, 999, ShornYear::new, (x, v) -> x.best(3, v));
        Twin.refused("BEYOND is asked before NONE", Due.BEYOND, ShornYear::new, x -> x.best(4, 999));
        Twin.looks("1", 9, () -> Twin.told("store 9 1"), x -> x.best(3, 1));
        Twin.looks("999", 9, () -> Twin.told("store 9 999"), x -> x.best(3, 999));
    }

    /** "so that its WARMTH is most ..; of several the least". */
    private static void bestOfSeveral() {
        Twin.looks("two of the cold", 8, () -> Twin.told("store 8 9;store 11 9;store 2 9"), x -> x.best(0, 9));
        Twin.looks("two of the middling", 2, () -> Twin.told("store 7 9;store 2 9;store 9 9"), x -> x.best(0, 9));
        Twin.looks("two of the mild", 6, () -> Twin.told("mild 6 11;store 6 9;store 7 9"), x -> x.best(0, 9));
        Twin.looks("-1 and 0", 7, () -> Twin.told("mild 6 0;cold 7 1;store 6 9;store 7 9"), x -> x.best(0, 9));
        Twin.looks("11 and 10", 7, () -> Twin.told("mild 6 11;mild 7 10;store 6 9;store 7 9"), x -> x.best(0, 9));
        Twin.looks("0 and 10", 6, () -> Twin.told("mild 6 0;mild 7 10;store 6 9;store 7 9"), x -> x.best(0, 9));
        Twin.looks("a half that becomes a whole", 7, () -> Twin.told("mild 6 11;store 6 9;store 7 9;cut 0 7 1"),
            x -> x.best(0, 1));
        Twin.looks("no half does", 6, () -> Twin.told("mild 6 11;store 6 9;store 7 9;cut 0 7 2"),
            x -> x.best(0, 1));
        Twin.looks("the first and the last", 0, () -> Twin.told("store 0 9;store 11 9"), x -> x.best(0, 9));
    }

    /** "(of those where it may)": STORE has so much, and the coat has room. */
    private static void bestWhereItMay() {
        Twin.Made made = () -> Twin.told("store 0 1000;store 2 9;cut 1 0 990");
        Twin.looks("just the rest", 0, made, x -> x.best(1, 9));
        Twin.looks("9 for another coat", 0, made, x -> x.best(0, 9));
        Twin.looks("10 for another coat", 0, made, x -> x.best(0, 10));
        Twin.refused("11 for another coat", Due.NONE, made, x -> x.best(0, 11));
        Twin.refused("10: STORE has it, the coat has no room", Due.NONE, made, x -> x.best(1, 10));
        Twin.looks("no room for 1 of the cold", 2, () -> Twin.told("store 0 1000;store 2 9;cut 1 0 999"),
            x -> x.best(1, 1));
        Twin.looks("no STORE of the cold", 2, () -> Twin.told("store 0 8;store 2 9"), x -> x.best(1, 9));
        Twin.looks("one that makes it no warmer", 7, () -> Twin.told("store 7 1"), x -> x.best(1, 1));
    }

    /** "NONE: of none." */
    private static void bestOfNone() {
        Twin.refused("STORE has 1 too few", Due.NONE, () -> Twin.told("store 9 998"), x -> x.best(3, 999));
        Twin.refused("a full coat", Due.NONE, () -> Twin.told("store 9 9999;cut 3 9 999"), x -> x.best(3, 1));
        Twin.refused("a coat of 1", Due.NONE, () -> Twin.told("store 9 9999;cut 3 9 1"), x -> x.best(3, 999));
    }

    /** "FRIGHT (0 to 99) .. v (0 to 1188) or more n MONTHS (0 to 60) AHEAD". */
    private static void bears() {
        Twin.range("bears of two", 0, 1, Twin::parish, (x, v) -> x.bears(v, 2, 5));
        Twin.range("bears of eight", 0, 7, Twin::full, (x, v) -> x.bears(v, 2, 0));
        Twin.range("bears, n", 0, 60, Twin::parish, (x, v) -> x.bears(0, v, 5));
        Twin.range("bears", 0, 1188, Twin::parish, (x, v) -> x.bears(0, 2, v));
        Twin.refused("BEYOND is asked before NONE", Due.BEYOND, Twin::parish, x -> x.bears(2, 0, 1188));
        Twin.refused("for any n", Due.BEYOND, Twin::parish, x -> x.bears(0, 61, 1188));
    }

    /** "The greatest FRIGHT", "NONE." */
    private static void bearsEnds() {
        Twin.Made one = () -> Twin.told("ewe fright 77;lamb;ram;black;wether;pet;mild 0 0");
        Twin.looks("0 now", 99, one, x -> x.bears(0, 0, 0));
        Twin.refused("1 now", Due.NONE, one, x -> x.bears(0, 0, 1));
        Twin.looks("1 in 1", 99, one, x -> x.bears(0, 1, 1));
        Twin.looks("2 in 1", 89, one, x -> x.bears(0, 1, 2));
        Twin.looks("10 in 1", 9, one, x -> x.bears(0, 1, 10));
        Twin.refused("11 in 1", Due.NONE, one, x -> x.bears(0, 1, 11));
        Twin.looks("0 in June", 99, one, x -> x.bears(0, 6, 0));
        Twin.refused("1 in June", Due.NONE, one, x -> x.bears(0, 6, 1));
        Twin.looks("1 behind June", 99, one, x -> x.bears(0, 7, 1));
        Twin.looks("68 in 60", 99, one, x -> x.bears(0, 60, 68));
        Twin.refused("69 in 60", Due.NONE, one, x -> x.bears(0, 60, 69));
        Twin.looks("5 of a LAMB", 9, one, x -> x.bears(1, 1, 5));
        Twin.looks("1 of a LAMB", 29, one, x -> x.bears(1, 1, 1));
        Twin.looks("0 of a LAMB", 99, one, x -> x.bears(1, 1, 0));
        Twin.looks("14 of a RAM", 99, one, x -> x.bears(2, 1, 14));
        Twin.refused("15 of a RAM", Due.NONE, one, x -> x.bears(2, 1, 15));
        Twin.looks("13 of a BLACK", 99, one, x -> x.bears(3, 1, 13));
        Twin.refused("14 of a BLACK", Due.NONE, one, x -> x.bears(3, 1, 14));
        Twin.looks("12 of a WETHER", 9, one, x -> x.bears(4, 1, 12));
        Twin.looks("11 of a PET", 19, one, x -> x.bears(5, 1, 11));
        Twin.refused("1188", Due.NONE, one, x -> x.bears(0, 5, 1188));
    }

    /** "n MONTHS (1 to 60) AHEAD". */
    private static void milder() {
        Twin.range("milder", 1, 60, Twin::parish, (x, v) -> x.milder(v));
        Twin.range("milder of none", 1, 60, ShornYear::new, (x, v) -> x.milder(v));
    }

    /** "of several the least". */
    private static void milderOfSeveral() {
        Twin.looks("no June yet", 0, () -> Twin.told("black"), x -> x.milder(5));
        Twin.looks("none is rough", 0, () -> Twin.told("lamb"), x -> x.milder(60));
        Twin.looks("two alike", 1, () -> Twin.told("ewe;mild 0 0;cold 1 9;cold 4 9"), x -> x.milder(6));
        Twin.looks("the last of the year", 11, () -> Twin.told("ewe;mild 0 0;mild 4 0"), x -> x.milder(18));
    }

    /** "its WEATHER 5 more". */
    private static void milderByFive() {
        Twin.looks("-13 comes to -8", 1, () -> Twin.told("ewe;mild 0 0;cold 1 13;cold 4 9"), x -> x.milder(6));
        Twin.looks("-14 to -9", 4, () -> Twin.told("ewe;mild 0 0;cold 1 14;cold 4 9"), x -> x.milder(6));
        Twin.looks("a BLACK one's 6 to 11", 2, () -> Twin.told("black;cold 0 20;cold 1 20;mild 2 6;mild 4 0"),
            x -> x.milder(6));
        Twin.looks("a BLACK one's 5 to 10", 3, () -> Twin.told("black;cold 0 20;cold 1 20;mild 2 5;mild 4 0"),
            x -> x.milder(6));
    }

    /** "(20 at most)", and the ends of WEATHER. */
    private static void milderEnds() {
        Twin.looks("20 stays", 4, () -> Twin.told("ewe;mild 0 20;mild 1 16;mild 2 20;mild 3 20"), x -> x.milder(6));
        Twin.looks("ROUGH at its most", 0, YearEdgesTest::old, x -> x.milder(60));
        Twin.looks("1 MONTH", 4, () -> inJune("ewe;mild 0 20"), x -> x.milder(1));
        Twin.looks("60 MONTHS", 0, () -> Twin.told("ewe"), x -> x.milder(60));
    }

    private static ShornYear inJune(String text) {
        ShornYear x = Twin.told(text);
        x.months(5);
        return x;
    }

    /** "The coat of most WARMTH; of several the least." */
    private static void warmestOfSeveral() {
        Twin.looks("none has any", 0, ShornYear::new, ShornYear::warmest);
        Twin.looks("none is warm", 0, () -> Twin.told("store 7 9;cut 3 7 1"), ShornYear::warmest);
        Twin.looks("the last", 3, () -> Twin.told("store 9 9;cut 3 9 1"), ShornYear::warmest);
        Twin.looks("the last two", 2, () -> Twin.told("store 9 9;cut 3 9 1;cut 2 9 1"), ShornYear::warmest);
        Twin.looks("by one", 3, () -> Twin.told("store 9 9;cut 3 9 2;cut 2 9 1"), ShornYear::warmest);
        Twin.looks("all four", 0, () -> Twin.told("store 9 9;cut 3 9 2;cut 2 9 2;cut 1 9 2;cut 0 9 2"),
            ShornYear::warmest);
        Twin.looks("of several kinds of wool", 1, () -> Twin.told("store 9 9;store 8 9;store 7 9;cut 3 9 4;cut 2 7 8;cut 1 8 2"),
            ShornYear::warmest);
    }
}
