/** Promises 5 to 11: ewe, of, fleece, can, scare, turn, as. */
public final class EwesTest {
    private static final String[] NAMES = {"EWE", "RAM", "LAMB", "WETHER", "BLACK", "PET"};

    public static void main(String[] args) {
        ewe();
        of();
        fleece();
        grows();
        loses();
        burrs();
        canBeyond();
        scare();
        turn();
        as();
        Due.end();
    }

    private static ShornYear oneOfEach() {
        ShornYear x = new ShornYear();
        for (int k = 0; k < 6; k++) {
            x.ewe(k);
        }
        return x;
    }

    private static void ewe() {
        ShornYear x = oneOfEach();
        Due.is("six", x.count(0), 6);
        Due.is("a 7th", x.ewe(5), 6);
        Due.is("an 8th", x.ewe(0), 7);
        Due.is("beyond is asked before full", x.ewe(6), Due.BEYOND);
        Due.is("below", x.ewe(-1), Due.BEYOND);
        Due.is("a 9th", x.ewe(0), Due.FULL);
        Due.is("still 8", x.count(0), 8);
        Due.is("status full", x.status(1), 1);
        Due.is("status beyond", x.status(0), 2);
        for (int wild : Due.WILD) {
            Due.is("ewe, wild " + wild, x.ewe(wild), Due.BEYOND);
        }
    }

    private static void of() {
        ShornYear x = oneOfEach();
        int[] calms = {10, 20, 5, 10, 20, 15};
        int[] wool = {28, 36, 14, 24, 34, 26};
        x.months(2);
        for (int e = 0; e < 6; e++) {
            x.scare(e, 10 + e);
            Due.is("kind of " + NAMES[e], x.of(e, 0), e);
            Due.is("fright of " + NAMES[e], x.of(e, 1), 10 + e);
            Due.is("wool of " + NAMES[e], x.of(e, 2), wool[e]);
            Due.is("calms of " + NAMES[e], x.of(e, 3), calms[e]);
        }
        Due.all("beyond", Due.BEYOND, x.of(-1, 0), x.of(6, 0), x.of(8, 0), x.of(0, -1), x.of(0, 4));
        for (int wild : Due.WILD) {
            Due.all("of, wild " + wild, Due.BEYOND, x.of(wild, 0), x.of(0, wild));
        }
    }

    private static void fleece() {
        ShornYear x = oneOfEach();
        x.months(8);
        int[] july = {10, 14, 5, 12, 13, 11};
        int[] august = {10, 14, 5, 12, 0, 11};
        for (int e = 0; e < 6; e++) {
            Due.is("month 5 of " + NAMES[e], x.fleece(e, 5), 0);
            Due.is("month 6 of " + NAMES[e], x.fleece(e, 6), july[e]);
            Due.is("month 7 of " + NAMES[e], x.fleece(e, 7), august[e]);
            Due.is("month 8 of " + NAMES[e], x.fleece(e, 8), 0);
        }
        Due.all("beyond", Due.BEYOND, x.fleece(-1, 0), x.fleece(6, 0), x.fleece(0, -1), x.fleece(0, 12));
        for (int wild : Due.WILD) {
            Due.all("fleece, wild " + wild, Due.BEYOND, x.fleece(wild, 0), x.fleece(0, wild));
        }
    }

    private static void grows() {
        ShornYear x = oneOfEach();
        int[] weathers = {-20, -19, -9, -8, -2, -1, 0, 1, 10, 11, 20};
        int[][] due = {
            {20, 19, 14, 14, 11, 10, 10, 10, 10, 10, 10},
            {24, 23, 18, 18, 15, 14, 14, 14, 14, 14, 14},
            {10, 9, 7, 7, 5, 5, 5, 5, 5, 5, 5},
            {12, 12, 12, 12, 12, 12, 12, 12, 12, 12, 12},
            {24, 23, 18, 18, 15, 14, 14, 14, 14, 0, 0},
            {16, 15, 13, 13, 11, 11, 11, 11, 11, 11, 11},
        };
        for (int k = 0; k < 6; k++) {
            for (int i = 0; i < weathers.length; i++) {
                Due.is(NAMES[k] + " grows by " + weathers[i], x.can(k, 0, weathers[i]), due[k][i]);
            }
        }
    }

    private static void loses() {
        ShornYear x = oneOfEach();
        int[] frights = {0, 9, 10, 19, 20, 29, 30, 99};
        int[][] due = {
            {0, 0, 1, 1, 2, 2, 3, 9},
            {0, 0, 0, 0, 0, 0, 0, 0},
            {0, 0, 2, 2, 4, 4, 6, 18},
            {0, 0, 1, 1, 2, 2, 3, 9},
            {1, 1, 1, 1, 1, 1, 1, 1},
            {0, 0, 0, 0, 2, 2, 4, 16},
        };
        for (int k = 0; k < 6; k++) {
            for (int i = 0; i < frights.length; i++) {
                x.scare(k, frights[i]);
                Due.is(NAMES[k] + " loses by " + frights[i], x.can(k, 1, 20), due[k][i]);
            }
        }
    }

    private static void burrs() {
        ShornYear x = oneOfEach();
        int[] weathers = {-20, -9, -8, 0, 20};
        int[][] due = {
            {1, 1, 0, 0, 0}, {2, 2, 1, 1, 1}, {0, 0, 0, 0, 0},
            {1, 1, 0, 0, 0}, {4, 4, 3, 3, 3}, {0, 0, 0, 0, 0},
        };
        for (int k = 0; k < 6; k++) {
            for (int i = 0; i < weathers.length; i++) {
                Due.is(NAMES[k] + " burrs by " + weathers[i], x.can(k, 2, weathers[i]), due[k][i]);
            }
        }
    }

    private static void canBeyond() {
        ShornYear x = oneOfEach();
        Due.all("beyond", Due.BEYOND, x.can(-1, 0, 0), x.can(6, 0, 0), x.can(0, -1, 0), x.can(0, 3, 0),
            x.can(0, 0, -21), x.can(0, 0, 21), x.can(0, 1, 21), x.can(0, 2, -21));
        for (int wild : Due.WILD) {
            Due.all("can, wild " + wild, Due.BEYOND, x.can(wild, 0, 0), x.can(0, wild, 0), x.can(0, 1, wild));
        }
        Due.is("each is told once", x.status(-1), 8 + 3 * Due.WILD.length);
    }

    private static void scare() {
        ShornYear x = oneOfEach();
        Due.is("to 99", x.scare(3, 99), 0);
        Due.is("to 0", x.scare(3, 0), 99);
        Due.is("to 50", x.scare(3, 50), 0);
        Due.all("beyond", Due.BEYOND, x.scare(3, -1), x.scare(3, 100), x.scare(-1, 5), x.scare(6, 5));
        Due.is("a finding changes nothing", x.of(3, 1), 50);
        Due.is("nor another's", x.of(2, 1), 0);
        for (int wild : Due.WILD) {
            Due.all("scare, wild " + wild, Due.BEYOND, x.scare(wild, 0), x.scare(0, wild));
        }
    }

    private static void turn() {
        ShornYear x = Due.told("lamb fright 37");
        x.months(1);
        Due.is("was a lamb", x.turn(0, Due.BLACK), Due.LAMB);
        Due.is("is black", x.of(0, 0), Due.BLACK);
        Due.is("keeps its fright", x.of(0, 1), 32);
        Due.is("keeps its wool", x.fleece(0, 0), 2);
        Due.is("the same again", x.turn(0, Due.BLACK), Due.BLACK);
        Due.all("beyond", Due.BEYOND, x.turn(-1, 0), x.turn(1, 0), x.turn(0, -1), x.turn(0, 6));
        Due.is("still black", x.of(0, 0), Due.BLACK);
        for (int wild : Due.WILD) {
            Due.all("turn, wild " + wild, Due.BEYOND, x.turn(wild, 0), x.turn(0, wild));
        }
    }

    private static void as() {
        ShornYear x = oneOfEach();
        String[] under = {"100000", "110000", "101000", "100100", "110010", "101001"};
        for (int e = 0; e < 6; e++) {
            x.scare(e, 30 + e);
            for (int k = 0; k < 6; k++) {
                int due = under[e].charAt(k) == '1' ? 30 + e : Due.KIND;
                Due.is(NAMES[e] + " as " + NAMES[k], x.as(e, k), due);
            }
        }
        Due.is("status kind", x.status(2), 23);
        Due.all("beyond", Due.BEYOND, x.as(-1, 0), x.as(6, 0), x.as(0, -1), x.as(0, 6));
        for (int wild : Due.WILD) {
            Due.all("as, wild " + wild, Due.BEYOND, x.as(wild, 0), x.as(0, wild));
        }
    }
}
