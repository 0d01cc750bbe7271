/** The bounds of promises 15 to 19 and of AHEAD: months, on, then, enough, calm. */
public final class MonthsEdgesTest {
    public static void main(String[] args) {
        months();
        lastMonth();
        monthsOrder();
        on();
        onEnds();
        then();
        thenEnds();
        enough();
        enoughEnds();
        calm();
        calmEnds();
        aheadPastTheLastMonth();
        Due.end();
    }

    /** "n MONTHS go (1 to 60)". */
    private static void months() {
        Twin.range("months", 1, 60, Twin::parish, (x, v) -> x.months(v));
        ShornYear x = Twin.told("ewe");
        Due.is("1", x.months(1), 0);
        Due.is("MONTH 1", x.now(0), 1);
        Due.is("60", x.months(60), 73 + 4 * 141);
        Due.is("MONTH 61", x.now(0), 61);
    }

    /** "STATE: MONTH would be above 9999." */
    private static void lastMonth() {
        ShornYear a = Twin.inMonth(9939);
        a.months(60);
        Due.is("60 to 9999", a.now(0), 9999);
        ShornYear b = Twin.inMonth(9998);
        b.months(1);
        Due.is("1 to 9999", b.now(0), 9999);
        Due.is("no finding", a.status(-1) + b.status(-1), 0);
        Twin.refused("60 to 10000", Due.STATE, () -> Twin.inMonth(9940), x -> x.months(60));
        Twin.refused("2 to 10000", Due.STATE, () -> Twin.inMonth(9998), x -> x.months(2));
        Twin.refused("1 to 10000", Due.STATE, () -> Twin.inMonth(9999), x -> x.months(1));
        Twin.refused("60 to 10059", Due.STATE, () -> Twin.inMonth(9999), x -> x.months(60));
    }

    /** BEYOND is asked before STATE. */
    private static void monthsOrder() {
        for (int n : new int[] {0, -1, 61, Integer.MIN_VALUE, Integer.MAX_VALUE, Integer.MAX_VALUE - 9998}) {
            Twin.refused(n + " in the last MONTH", Due.BEYOND, () -> Twin.inMonth(9999), x -> x.months(n));
        }
    }

    /** "n MONTHS (0 to 120) AHEAD", "(what 0) .. (1)". */
    private static void on() {
        Twin.range("on, ewe of two", 0, 1, Twin::parish, (x, v) -> x.on(v, 5, 0));
        Twin.range("on, ewe of eight", 0, 7, Twin::full, (x, v) -> x.on(v, 5, 0));
        Twin.range("on, n", 0, 120, Twin::parish, (x, v) -> x.on(0, v, 0));
        Twin.range("on, n of FRIGHT", 0, 120, Twin::parish, (x, v) -> x.on(0, v, 1));
        Twin.range("on, what", 0, 1, Twin::parish, (x, v) -> x.on(0, 5, v));
    }

    private static void onEnds() {
        ShornYear now = Twin.parish();
        ShornYear next = Twin.parish();
        next.months(1);
        ShornYear far = Twin.parish();
        far.months(60);
        far.months(60);
        for (int e = 0; e < 2; e++) {
            int ewe = e;
            Twin.looks("wool in 0", now.of(e, 2), Twin::parish, x -> x.on(ewe, 0, 0));
            Twin.looks("FRIGHT in 0", now.of(e, 1), Twin::parish, x -> x.on(ewe, 0, 1));
            Twin.looks("wool in 1", next.of(e, 2), Twin::parish, x -> x.on(ewe, 1, 0));
            Twin.looks("FRIGHT in 1", next.of(e, 1), Twin::parish, x -> x.on(ewe, 1, 1));
            Twin.looks("wool in 120", far.of(e, 2), Twin::parish, x -> x.on(ewe, 120, 0));
            Twin.looks("FRIGHT in 120", 0, Twin::parish, x -> x.on(ewe, 120, 1));
        }
        ShornYear y = Twin.told("ewe fright 35");
        Due.is("in 0", y.on(0, 0, 1), 35);
        Due.is("in 1", y.on(0, 1, 0), 13);
        Due.is("in 120", y.on(0, 120, 0), 68);
    }

    private static void then() {
        Twin.range("then, month", 0, 11, Twin::parish, (x, v) -> x.then(v, 5, 0));
        Twin.range("then, n", 0, 120, Twin::parish, (x, v) -> x.then(8, v, 0));
        Twin.range("then, n of ROUGH", 0, 120, Twin::parish, (x, v) -> x.then(8, v, 1));
        Twin.range("then, what", 0, 1, Twin::parish, (x, v) -> x.then(8, 5, v));
    }

    private static void thenEnds() {
        ShornYear now = Twin.parish();
        ShornYear far = Twin.parish();
        far.months(60);
        far.months(60);
        for (int m = 0; m < 12; m++) {
            int month = m;
            Twin.looks("STORE in 0", now.monthOf(m, 1), Twin::parish, x -> x.then(month, 0, 0));
            Twin.looks("ROUGH in 0", now.monthOf(m, 2), Twin::parish, x -> x.then(month, 0, 1));
            Twin.looks("STORE in 120", far.monthOf(m, 1), Twin::parish, x -> x.then(month, 120, 0));
            Twin.looks("ROUGH in 120", far.monthOf(m, 2), Twin::parish, x -> x.then(month, 120, 1));
        }
        ShornYear y = Twin.told("ewe;store 0 9830;store 11 9999");
        Due.is("in 5", y.then(0, 5, 0), 9830);
        Due.is("in 6", y.then(0, 6, 0), 9846);
        Due.is("in 113", y.then(0, 113, 0), 9830 + 9 * 16);
        Due.is("in 120", y.then(0, 120, 0), 9830 + 10 * 16);
        Due.is("at most", y.then(11, 120, 0), 9999);
        Due.is("ROUGH in 120", y.then(0, 120, 1), 10);
    }

    /** "v (0 to 9999)". */
    private static void enough() {
        Twin.range("enough, month", 0, 11, Twin::parish, (x, v) -> x.enough(v, 5));
        Twin.range("enough", 0, 9999, Twin::parish, (x, v) -> x.enough(0, v));
        Twin.refused("BEYOND is asked before NONE", Due.BEYOND, Twin::parish, x -> x.enough(12, 9999));
        Twin.refused("for any v", Due.BEYOND, ShornYear::new, x -> x.enough(0, 10000));
    }

    /** "In how many MONTHS (0 to 120) STORE .. is v .. or more first.", "NONE." */
    private static void enoughEnds() {
        Twin.looks("0 is there", 0, ShornYear::new, x -> x.enough(11, 0));
        Twin.looks("9999 is there", 0, () -> Twin.told("store 11 9999"), x -> x.enough(11, 9999));
        Twin.refused("9999, and none grows", Due.NONE, () -> Twin.told("store 11 9998"), x -> x.enough(11, 9999));
        Twin.looks("9999 at most is enough", 6, () -> Twin.told("ewe;store 2 9998"), x -> x.enough(2, 9999));
        Twin.Made behindJune = () -> {
            ShornYear x = Twin.told("ewe");
            x.months(6);
            return x;
        };
        // Month 0 has 16 now, and in 120 months 160 more.
        Twin.looks("just there", 0, behindJune, x -> x.enough(0, 16));
        Twin.looks("one more", 12, behindJune, x -> x.enough(0, 17));
        Twin.looks("just in 12", 12, behindJune, x -> x.enough(0, 32));
        Twin.looks("just in 120", 120, behindJune, x -> x.enough(0, 176));
        Twin.refused("in 132 only", Due.NONE, behindJune, x -> x.enough(0, 177));
        Twin.looks("before June", 6, () -> Twin.told("ewe"), x -> x.enough(0, 1));
    }

    private static void calm() {
        Twin.range("calm of two", 0, 1, Twin::parish, (x, v) -> x.calm(v));
        Twin.range("calm of eight", 0, 7, Twin::full, (x, v) -> x.calm(v));
    }

    /** "In how many MONTHS .. FRIGHT of one is 0 first." No kind needs more than 20, so NONE is never told. */
    private static void calmEnds() {
        int[] calms = {10, 20, 5, 10, 20, 15};
        int[] most = {10, 5, 20, 10, 5, 7};
        for (int k = 0; k < 6; k++) {
            ShornYear x = new ShornYear();
            x.ewe(k);
            Due.is("calm already, " + k, x.calm(0), 0);
            x.scare(0, 1);
            Due.is("by 1, " + k, x.calm(0), 1);
            x.scare(0, calms[k]);
            Due.is("by what it CALMS, " + k, x.calm(0), 1);
            x.scare(0, calms[k] + 1);
            Due.is("by one more, " + k, x.calm(0), 2);
            x.scare(0, 99);
            Due.is("by 99, " + k, x.calm(0), most[k]);
            Due.is("no finding", x.status(-1), 0);
            Due.is("it is as it was", x.of(0, 1), 99);
        }
    }

    /** "AHEAD: n MONTHS go on with all as it is; nothing changes." Only months() has STATE. */
    private static void aheadPastTheLastMonth() {
        Twin.Made last = () -> Twin.inMonth(9999);
        // The last MONTH is of the year 3, as the MONTH 27 is, when no wool is left that FRIGHT made less.
        ShornYear young = Twin.inMonth(27);
        ShornYear old = Twin.inMonth(9999);
        Twin.looks("wool in 2", young.on(0, 2, 0), last, x -> x.on(0, 2, 0));
        Twin.looks("wool in 120", young.on(0, 120, 0), last, x -> x.on(0, 120, 0));
        Twin.looks("no STORE before June", old.monthOf(5, 1), last, x -> x.then(5, 2, 0));
        Twin.looks("STORE in June", 9999, last, x -> x.then(5, 3, 0));
        Twin.looks("ROUGH in June", old.monthOf(5, 2) + 3, last, x -> x.then(5, 3, 1));
        Twin.looks("ROUGH in 120", old.monthOf(5, 2) + 30, last, x -> x.then(5, 120, 1));
    }
}
