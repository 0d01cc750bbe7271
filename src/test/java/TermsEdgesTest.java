/** The bounds that the document's Terms name: the year, the kinds, a month that goes, June, the wool of coats. */
public final class TermsEdgesTest {
    private static final int[] WEATHER = {-12, -5, 2, 9, -9, -2, 5, 12, -6, 1, 8, -10};

    public static void main(String[] args) {
        findings();
        monthOfTheYear();
        weatherAtFirst();
        junesAlone();
        halvesAreCut();
        tenthsAreCut();
        blackAboveTen();
        losesNoMoreThanItGrows();
        petLosesNoneAtLeast();
        calmsToNoneAtLeast();
        burrsBelowMinusEight();
        storeByShearing();
        roughByShearing();
        roughOfNoWool();
        roughByTheWeatherOfJune();
        fleeceIsAllOff();
        greatestFleece();
        Due.end();
    }

    /** "FINDINGS are answers below -1000000000: -1000000001 BEYOND, .. -1000000007 SIZE (in longs, too)." */
    private static void findings() {
        ShornYear x = Twin.told("ewe;ewe;ewe;ewe;ewe;ewe;ewe;ewe");
        Due.is("BEYOND", x.now(6), -1000000001);
        Due.is("FULL", x.ewe(0), -1000000002);
        Due.is("KIND", x.as(0, 1), -1000000003);
        Due.is("NONE", x.undo(), -1000000004);
        Due.is("STATE", x.cut(0, 0, 1), -1000000005);
        Due.is("MISSING", x.lays(0), -1000000006);
        Due.is("SIZE", x.sheet(0, 8, -1), -1000000007);
        Due.is("BEYOND, as a long", x.write(4, 0, 0), -1000000001L);
        Due.is("MISSING, as a long", x.write(0, 0, 0), -1000000006L);
        int[] due = {2, 1, 1, 1, 1, 2, 1};
        for (int w = 0; w < 7; w++) {
            Due.is("status(" + w + ")", x.status(w), due[w]);
        }
    }

    /** "MONTH: 0 at first ..; of the year: its rest by 12". */
    private static void monthOfTheYear() {
        ShornYear x = new ShornYear();
        for (int month = 0; month <= 25; month++) {
            Due.is("MONTH", x.now(0), month);
            Due.is("of the year, in " + month, x.now(1), month % 12);
            Due.is("WEATHER in " + month, x.now(2), 100 + WEATHER[month % 12]);
            x.months(1);
        }
        ShornYear y = Twin.inMonth(9999);
        Due.is("the last MONTH", y.now(0), 9999);
        Due.is("the last of the year", y.now(1), 3);
        Due.is("the last WEATHER", y.now(2), 109);
    }

    /** "WEATHER .. of month m at first the rest of 7 times m by 25, less 12". */
    private static void weatherAtFirst() {
        ShornYear x = new ShornYear();
        for (int m = 0; m < 12; m++) {
            Due.is("WEATHER of " + m + " at first", x.weather(m, 0), WEATHER[m]);
        }
    }

    /** "In JUNE then all are SHORN": not a month before, not a month behind. */
    private static void junesAlone() {
        ShornYear x = Twin.told("ewe");
        Due.is("five months", x.months(5), 0);
        Due.is("wool before June", x.of(0, 2), 62);
        Due.is("June", x.months(1), 73);
        Due.is("wool behind June", x.of(0, 2), 0);
        Due.is("eleven more", x.months(11), 73);
        Due.is("wool before the next", x.of(0, 2), 130);
        Due.is("the next", x.months(1), 73 + 141);
        Due.is("wool behind it", x.of(0, 2), 0);
    }

    /** "half of what w is below 0 (cut)", "LAMB: half of as EWE", "PET: as LAMB, and 6". */
    private static void halvesAreCut() {
        ShornYear x = Twin.told("ewe;ram;lamb;wether;black;pet");
        int[] weathers = {20, 1, 0, -1, -2, -3, -4, -19, -20};
        int[] ewe = {10, 10, 10, 10, 11, 11, 12, 19, 20};
        for (int i = 0; i < weathers.length; i++) {
            int w = weathers[i];
            Due.is("EWE grows by " + w, x.can(0, 0, w), ewe[i]);
            Due.is("RAM grows by " + w, x.can(1, 0, w), ewe[i] + 4);
            Due.is("LAMB grows by " + w, x.can(2, 0, w), ewe[i] >> 1);
            Due.is("WETHER grows by " + w, x.can(3, 0, w), 12);
            Due.is("PET grows by " + w, x.can(5, 0, w), (ewe[i] >> 1) + 6);
        }
    }

    /** "EWE: f by 10", "LAMB: .. twice that" (of what was cut). */
    private static void tenthsAreCut() {
        ShornYear x = Twin.told("ewe;lamb;wether");
        int[] frights = {0, 9, 10, 19, 20, 89, 90, 99};
        int[] tenths = {0, 0, 1, 1, 2, 8, 9, 9};
        for (int i = 0; i < frights.length; i++) {
            for (int e = 0; e < 3; e++) {
                x.scare(e, frights[i]);
                Due.is(e + " loses by " + frights[i], x.can(e, 1, 0), tenths[i] * (e == 1 ? 2 : 1));
            }
        }
    }

    /** "BLACK: as RAM, but 0, if w is above 10". */
    private static void blackAboveTen() {
        ShornYear x = Twin.told("black");
        Due.is("10", x.can(0, 0, 10), 14);
        Due.is("11", x.can(0, 0, 11), 0);
        Due.is("20", x.can(0, 0, 20), 0);
        x.weather(0, 10);
        Due.is("a month of 10", x.on(0, 1, 0), 13);
        x.weather(0, 11);
        Due.is("a month of 11: what it loses is no more", x.on(0, 1, 0), 0);
    }

    /** "LOSES (..; no more than it GROWS)". */
    private static void losesNoMoreThanItGrows() {
        ShornYear x = Twin.told("lamb;cold 0 4");
        int[] frights = {0, 20, 29, 30, 40, 99};
        int[] left = {6, 2, 2, 0, 0, 0};
        for (int i = 0; i < frights.length; i++) {
            x.scare(0, frights[i]);
            Due.is("a LAMB of FRIGHT " + frights[i], x.on(0, 1, 0), left[i]);
        }
        Due.is("but it can, whatever it GROWS", x.can(0, 1, -4), 18);
        x.months(1);
        Due.is("FLEECE", x.fleece(0, 0), 0);
        ShornYear y = Twin.told("ewe fright 99;wether fright 99;pet fright 99;mild 0 0");
        y.months(1);
        Due.is("an EWE keeps 1", y.fleece(0, 0), 1);
        Due.is("a WETHER keeps 3", y.fleece(1, 0), 3);
        Due.is("a PET keeps none", y.fleece(2, 0), 0);
    }

    /** "PET: as LAMB, less 2 (0 at least)". */
    private static void petLosesNoneAtLeast() {
        ShornYear x = Twin.told("pet");
        int[] frights = {0, 9, 10, 19, 20, 30, 99};
        int[] due = {0, 0, 0, 0, 2, 4, 16};
        for (int i = 0; i < frights.length; i++) {
            x.scare(0, frights[i]);
            Due.is("a PET of FRIGHT " + frights[i] + " loses", x.can(0, 1, 0), due[i]);
        }
    }

    /** "FRIGHT is what it CALMS less (0 at least)". */
    private static void calmsToNoneAtLeast() {
        int[] calms = {10, 20, 5, 10, 20, 15};
        for (int k = 0; k < 6; k++) {
            ShornYear x = new ShornYear();
            x.ewe(k);
            Due.is("CALMS of " + k, x.of(0, 3), calms[k]);
            int[] frights = {0, 1, calms[k] - 1, calms[k], calms[k] + 1, 99};
            int[] due = {0, 0, 0, 0, 1, 99 - calms[k]};
            for (int i = 0; i < frights.length; i++) {
                x.scare(0, frights[i]);
                Due.is("FRIGHT " + frights[i] + " of " + k + " AHEAD", x.on(0, 1, 1), due[i]);
                x.months(1);
                Due.is("FRIGHT " + frights[i] + " of " + k, x.of(0, 1), due[i]);
            }
        }
    }

    /** "BURRS .. EWE: 1, if w is below -8, else 0". */
    private static void burrsBelowMinusEight() {
        ShornYear x = Twin.told("ewe;ram;lamb;wether;black;pet");
        int[] at8 = {0, 1, 0, 0, 3, 0};
        int[] at9 = {1, 2, 0, 1, 4, 0};
        for (int k = 0; k < 6; k++) {
            Due.is(k + " by 20", x.can(k, 2, 20), at8[k]);
            Due.is(k + " by -8", x.can(k, 2, -8), at8[k]);
            Due.is(k + " by -9", x.can(k, 2, -9), at9[k]);
            Due.is(k + " by -20", x.can(k, 2, -20), at9[k]);
        }
        Due.is("shorn at -8", Twin.told("ewe;cold 0 8").then(0, 6, 1), 0);
        Due.is("shorn at -9", Twin.told("ewe;cold 0 9").then(0, 6, 1), 1);
    }

    /** "STORE of m is FLEECE of m more (9999 at most)". */
    private static void storeByShearing() {
        int[] had = {0, 9988, 9989, 9990, 9998, 9999};
        int[] has = {10, 9998, 9999, 9999, 9999, 9999};
        for (int i = 0; i < had.length; i++) {
            ShornYear x = new ShornYear();
            x.ewe(0);
            Twin.text(x, "store 2 " + had[i]);
            Due.is("STORE of " + had[i] + " AHEAD", x.then(2, 6, 0), has[i]);
            Due.is("STORE of all", x.months(6), has[i] + 63);
            Due.is("STORE of " + had[i], x.monthOf(2, 1), has[i]);
            Due.is("STORE of another month", x.monthOf(3, 1), 10);
        }
        ShornYear y = Twin.told("ewe;ewe;store 2 9985");
        y.months(6);
        Due.is("two of them", y.monthOf(2, 1), 9999);
        y.months(60);
        Due.is("it stays", y.monthOf(2, 1), 9999);
    }

    /** "ROUGH of m is what it BURRS .. more (9999 at most)". */
    private static void roughByShearing() {
        ShornYear x = eightBlack(-20);
        for (int i = 0; i < 62; i++) {
            x.months(60);
        }
        x.months(24);
        Due.is("312 Junes of 32", x.monthOf(0, 2), 9984);
        x.image();
        int[][] kinds = {{4, 4, 4, 1, 2, 2, 2, 2}, {4, 4, 4, 1, 0, 2, 2, 2}, {4, 4, 4, 4, 2, 2, 2, 2},
            {4, 4, 4, 4, 4, 4, 4, 4}};
        int[] due = {9998, 9999, 9999, 9999};
        for (int i = 0; i < kinds.length; i++) {
            x.undo();
            for (int e = 0; e < 8; e++) {
                x.turn(e, kinds[i][e]);
            }
            Due.is("ROUGH AHEAD, " + i, x.then(0, 6, 1), due[i]);
            x.months(6);
            Due.is("ROUGH, " + i, x.monthOf(0, 2), due[i]);
        }
        x.months(60);
        Due.is("it stays", x.monthOf(0, 2), 9999);
    }

    static ShornYear eightBlack(int weather) {
        ShornYear x = new ShornYear();
        for (int e = 0; e < 8; e++) {
            x.ewe(Due.BLACK);
        }
        for (int m = 0; m < 12; m++) {
            x.weather(m, weather);
        }
        return x;
    }

    /** "ROUGH .., if FLEECE of m is above 0". */
    private static void roughOfNoWool() {
        ShornYear x = Twin.told("black;mild 0 11;mild 1 10");
        x.months(2);
        x.weather(0, -20);
        x.weather(6, -20);
        x.months(4);
        Due.is("no wool, no burrs", x.monthOf(0, 2), 0);
        Due.is("wool, burrs", x.monthOf(1, 2), 3);
        Due.is("a month that has not been", x.monthOf(6, 2), 0);
        ShornYear y = Twin.told("ewe fright 99;wether fright 99;mild 0 0");
        y.months(1);
        y.weather(0, -9);
        y.months(5);
        Due.is("1 of wool and 3 of wool", y.monthOf(0, 2), 2);
    }

    /** "by the WEATHER of m (as that is then)". */
    private static void roughByTheWeatherOfJune() {
        ShornYear x = Twin.told("ewe;cold 0 20;mild 1 20");
        x.months(5);
        x.weather(0, -8);
        x.weather(1, -9);
        x.months(1);
        Due.is("cold when it grew", x.monthOf(0, 2), 0);
        Due.is("cold when it was shorn", x.monthOf(1, 2), 1);
        Due.is("it grew in the cold", x.monthOf(0, 1), 20);
        Due.is("it grew in the mild", x.monthOf(1, 1), 10);
        x.weather(0, -20);
        Due.is("later weather changes none", x.monthOf(0, 2), 0);
    }

    /** "FLEECE is all 0." */
    private static void fleeceIsAllOff() {
        ShornYear x = Twin.full();
        x.months(9);
        Due.is("June is over", x.now(1), 6);
        for (int e = 0; e < 8; e++) {
            Due.is("wool of " + e, x.of(e, 2), 0);
            for (int m = 0; m < 12; m++) {
                Due.is("wool of " + e + " of " + m, x.fleece(e, m), 0);
            }
        }
    }

    /** Eleven months of the most that any can have are on all of them before a June. */
    private static void greatestFleece() {
        ShornYear x = new ShornYear();
        for (int e = 0; e < 8; e++) {
            x.ewe(Due.RAM);
        }
        for (int m = 0; m < 12; m++) {
            x.weather(m, -20);
        }
        x.months(17);
        Due.is("of one", x.of(7, 2), 264);
        Due.is("of a month", x.fleece(7, 11), 24);
        Due.is("of June, which is not yet", x.fleece(7, 5), 0);
        Due.is("of all", x.now(5), 2112);
        Due.is("with June", x.months(1), 6 * 192 + 12 * 192);
    }
}
