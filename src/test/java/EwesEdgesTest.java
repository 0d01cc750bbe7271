/** The bounds of promises 5 to 11: ewe, of, fleece, can, scare, turn, as. */
public final class EwesEdgesTest {
    public static void main(String[] args) {
        eweKinds();
        eweFull();
        of();
        fleece();
        can();
        canEnds();
        scare();
        scareWas();
        turn();
        turnWas();
        as();
        asOfAnotherKind();
        Due.end();
    }

    /** "BEYOND: kind." */
    private static void eweKinds() {
        Twin.range("ewe", 0, 5, Twin::parish, (x, v) -> x.ewe(v));
        Twin.range("the first ewe", 0, 5, ShornYear::new, (x, v) -> x.ewe(v));
        ShornYear x = new ShornYear();
        for (int e = 0; e < 8; e++) {
            Due.is("the number", x.ewe(e % 6), e);
            Due.is("KIND", x.of(e, 0), e % 6);
            Due.is("FRIGHT at first", x.of(e, 1), 0);
            Due.is("FLEECE at first", x.of(e, 2), 0);
            Due.is("EWES", x.count(0), e + 1);
        }
    }

    /** "FULL.", asked behind BEYOND; "EWES 0, 1, .. (at most 8)". */
    private static void eweFull() {
        for (int k = 0; k < 6; k++) {
            int kind = k;
            Twin.refused("a 9th of " + k, Due.FULL, Twin::full, x -> x.ewe(kind));
        }
        for (int wrong : new int[] {-1, 6, Integer.MIN_VALUE, Integer.MAX_VALUE}) {
            Twin.refused("a 9th of " + wrong, Due.BEYOND, Twin::full, x -> x.ewe(wrong));
        }
    }

    private static void of() {
        Twin.range("of two", 0, 1, Twin::parish, (x, v) -> x.of(v, 0));
        Twin.range("of eight", 0, 7, Twin::full, (x, v) -> x.of(v, 0));
        Twin.range("of, what", 0, 3, Twin::parish, (x, v) -> x.of(1, v));
        Twin.refused("both wrong", Due.BEYOND, Twin::parish, x -> x.of(2, 4));
    }

    private static void fleece() {
        Twin.range("fleece of two", 0, 1, Twin::parish, (x, v) -> x.fleece(v, 8));
        Twin.range("fleece of eight", 0, 7, Twin::full, (x, v) -> x.fleece(v, 8));
        Twin.range("fleece, month", 0, 11, Twin::parish, (x, v) -> x.fleece(1, v));
        ShornYear x = Twin.told("ewe");
        x.months(12);
        Due.is("the last of the year", x.fleece(0, 11), 15);
        Due.is("the first", x.fleece(0, 0), 0);
        x.months(1);
        Due.is("the first, then", x.fleece(0, 0), 16);
    }

    /** "in a WEATHER (-20 to 20). BEYOND.": whatever is asked. */
    private static void can() {
        Twin.range("can of two", 0, 1, Twin::parish, (x, v) -> x.can(v, 0, 0));
        Twin.range("can of eight", 0, 7, Twin::full, (x, v) -> x.can(v, 2, 0));
        Twin.range("can, what", 0, 2, Twin::parish, (x, v) -> x.can(1, v, 0));
        for (int w = 0; w < 3; w++) {
            int what = w;
            Twin.range("can " + w + ", WEATHER", -20, 20, Twin::parish, (x, v) -> x.can(0, what, v));
        }
    }

    private static void canEnds() {
        Twin.Made made = () -> Twin.told("black fright 99;lamb fright 99");
        Twin.looks("GROWS at -20", 24, made, x -> x.can(0, 0, -20));
        Twin.looks("GROWS at 20", 0, made, x -> x.can(0, 0, 20));
        Twin.looks("BURRS at -20", 4, made, x -> x.can(0, 2, -20));
        Twin.looks("BURRS at 20", 3, made, x -> x.can(0, 2, 20));
        Twin.looks("LOSES where it GROWS 0", 1, made, x -> x.can(0, 1, 20));
        Twin.looks("LOSES more than it GROWS", 18, made, x -> x.can(1, 1, 20));
        Twin.looks("LOSES by no WEATHER", 18, made, x -> x.can(1, 1, -20));
    }

    /** "FRIGHT (0 to 99 ..)". */
    private static void scare() {
        Twin.range("scare of two", 0, 1, Twin::parish, (x, v) -> x.scare(v, 5));
        Twin.range("scare of eight", 0, 7, Twin::full, (x, v) -> x.scare(v, 5));
        Twin.range("scare", 0, 99, Twin::parish, (x, v) -> x.scare(1, v));
    }

    /** "FRIGHT becomes v: what it was." */
    private static void scareWas() {
        ShornYear x = Twin.full();
        Due.is("0", x.scare(7, 99), 0);
        Due.is("99", x.scare(7, 99), 99);
        Due.is("99 again", x.scare(7, 0), 99);
        Due.is("0 again", x.scare(7, 1), 0);
        Due.is("of the one before", x.of(6, 1), 0);
        Due.is("of itself", x.of(7, 1), 1);
    }

    private static void turn() {
        Twin.range("turn of two", 0, 1, Twin::parish, (x, v) -> x.turn(v, 5));
        Twin.range("turn of eight", 0, 7, Twin::full, (x, v) -> x.turn(v, 5));
        Twin.range("turn", 0, 5, Twin::parish, (x, v) -> x.turn(1, v));
    }

    /** "becomes one of another KIND: what it was." */
    private static void turnWas() {
        ShornYear x = Twin.told("ewe fright 9;ewe");
        for (int k = 1; k < 6; k++) {
            Due.is("what it was", x.turn(0, k), k - 1);
            Due.is("what it is", x.of(0, 0), k);
        }
        Due.is("from the last", x.turn(0, 0), 5);
        Due.is("its FRIGHT stays", x.of(0, 1), 9);
        Due.is("the other stays", x.of(1, 0), 0);
    }

    /** "BEYOND: no such one, kind." */
    private static void as() {
        Twin.range("as of two", 0, 1, Twin::parish, (x, v) -> x.as(v, 0));
        Twin.range("as of eight", 0, 7, Twin::full, (x, v) -> x.as(v, 0));
        Twin.range("as a kind", 0, 5, Twin::parish, (x, v) -> x.as(0, v));
        Twin.refused("no such one, a kind that it isn't", Due.BEYOND, Twin::parish, x -> x.as(2, 5));
    }

    /** "KIND: it isn't of that kind, nor of one under it." */
    private static void asOfAnotherKind() {
        String[] under = {"100000", "110000", "101000", "100100", "110010", "101001"};
        Twin.Made made = () -> Twin.told("ewe fright 99;ram fright 99;lamb fright 99;wether fright 99;black;pet");
        for (int e = 0; e < 6; e++) {
            for (int k = 0; k < 6; k++) {
                int ewe = e;
                int kind = k;
                if (under[e].charAt(k) == '1') {
                    Twin.looks(e + " as " + k, e < 4 ? 99 : 0, made, x -> x.as(ewe, kind));
                } else {
                    Twin.refused(e + " as " + k, Due.KIND, made, x -> x.as(ewe, kind));
                }
            }
        }
    }
}
