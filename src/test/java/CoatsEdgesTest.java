/** The bounds of promises 12 to 14: cut, coatOf, unpick. */
public final class CoatsEdgesTest {
    public static void main(String[] args) {
        cut();
        cutAllOfStore();
        cutMoreThanStore();
        cutToAFullCoat();
        cutOrder();
        coatOf();
        emptyCoat();
        greatestCoat();
        warmthByWeather();
        warmthIsCut();
        harshIsCut();
        setOfMonths();
        unpick();
        unpickToFullStore();
        Due.end();
    }

    private static ShornYear rich() {
        ShornYear x = Twin.parish();
        x.wipe();
        Twin.text(x, "store 0 9999;store 11 9999;store 5 9999");
        return x;
    }

    /** "n (1 to 999) of a month for a coat", "COATS 0 to 3". */
    private static void cut() {
        Twin.range("cut, coat", 0, 3, CoatsEdgesTest::rich, (x, v) -> x.cut(v, 0, 10));
        Twin.range("cut, month", 0, 11, CoatsEdgesTest::rich, (x, v) -> x.cut(0, v, 10));
        Twin.range("cut", 1, 999, CoatsEdgesTest::rich, (x, v) -> x.cut(3, 11, v));
        ShornYear x = rich();
        Due.is("1", x.cut(3, 11, 1), 1);
        Due.is("STORE by 1", x.monthOf(11, 1), 9998);
        Due.is("999", x.cut(0, 11, 999), 999);
        Due.is("STORE by 999", x.monthOf(11, 1), 8999);
        Due.is("998 more", x.cut(3, 11, 998), 999);
        Due.is("another month of that coat", x.cut(3, 0, 999), 999);
    }

    /** "STATE: STORE has not so much of it.": just so much will do. */
    private static void cutAllOfStore() {
        ShornYear x = Twin.told("store 4 1;store 5 999;store 6 998");
        Due.is("all of 1", x.cut(0, 4, 1), 1);
        Due.is("all of 999", x.cut(0, 5, 999), 999);
        Due.is("all of 998", x.cut(0, 6, 998), 998);
        Due.is("nothing is left", x.now(3), 0);
    }

    private static void cutMoreThanStore() {
        Twin.refused("1 of none", Due.STATE, Twin::parish, x -> x.cut(0, 11, 1));
        Twin.refused("2 of 1", Due.STATE, () -> Twin.told("store 4 1"), x -> x.cut(0, 4, 2));
        Twin.refused("999 of 998", Due.STATE, () -> Twin.told("store 4 998"), x -> x.cut(0, 4, 999));
        Twin.refused("1 of another month", Due.STATE, () -> Twin.told("store 4 998"), x -> x.cut(0, 3, 1));
        Twin.refused("1 when all is cut", Due.STATE, () -> Twin.told("store 4 9;cut 0 4 9"), x -> x.cut(1, 4, 1));
    }

    /** "FULL: the coat would have more than 999 of it." */
    private static void cutToAFullCoat() {
        Twin.Made of998 = () -> Twin.told("store 4 9999;cut 2 4 998");
        Twin.Made of999 = () -> Twin.told("store 4 9999;cut 2 4 999");
        Twin.Made of500 = () -> Twin.told("store 4 9999;cut 2 4 500");
        Twin.Made of1 = () -> Twin.told("store 4 9999;cut 2 4 1");
        Due.is("998 and 1", of998.now().cut(2, 4, 1), 999);
        Due.is("500 and 499", of500.now().cut(2, 4, 499), 999);
        Due.is("1 and 998", of1.now().cut(2, 4, 998), 999);
        Twin.refused("998 and 2", Due.FULL, of998, x -> x.cut(2, 4, 2));
        Twin.refused("999 and 1", Due.FULL, of999, x -> x.cut(2, 4, 1));
        Twin.refused("500 and 500", Due.FULL, of500, x -> x.cut(2, 4, 500));
        Twin.refused("1 and 999", Due.FULL, of1, x -> x.cut(2, 4, 999));
        Twin.refused("999 and 999", Due.FULL, of999, x -> x.cut(2, 4, 999));
        Due.is("another coat", of999.now().cut(1, 4, 999), 999);
    }

    /** BEYOND is asked before STATE, and STATE before FULL. */
    private static void cutOrder() {
        Twin.Made made = () -> Twin.told("store 4 1000;cut 2 4 999");
        Twin.refused("no more STORE, no more room", Due.STATE, made, x -> x.cut(2, 4, 2));
        Twin.refused("STORE, but no room", Due.FULL, made, x -> x.cut(2, 4, 1));
        Twin.refused("1000", Due.BEYOND, made, x -> x.cut(2, 4, 1000));
        Twin.refused("0", Due.BEYOND, made, x -> x.cut(2, 4, 0));
        Twin.refused("the least", Due.BEYOND, made, x -> x.cut(2, 4, Integer.MIN_VALUE));
        Twin.refused("the greatest", Due.BEYOND, made, x -> x.cut(2, 4, Integer.MAX_VALUE));
        Twin.refused("no coat, no STORE", Due.BEYOND, made, x -> x.cut(4, 3, 999));
        Twin.refused("no month, too much", Due.BEYOND, made, x -> x.cut(2, 12, 999));
    }

    private static void coatOf() {
        Twin.range("coatOf, coat", 0, 3, Twin::parish, (x, v) -> x.coatOf(v, 2));
        Twin.range("coatOf, what", 0, 3, Twin::parish, (x, v) -> x.coatOf(1, v));
        Twin.refused("both wrong", Due.BEYOND, Twin::parish, x -> x.coatOf(4, 4));
    }

    /** "none at first". */
    private static void emptyCoat() {
        for (int w = 0; w < 4; w++) {
            int what = w;
            Twin.looks("an empty coat, " + w, 0, CoatsEdgesTest::rich, x -> x.coatOf(0, what));
        }
    }

    /** All months with 999 of the coldest and roughest wool. */
    private static void greatestCoat() {
        ShornYear x = YearEdgesTest.old();
        for (int m = 0; m < 12; m++) {
            Due.is("999 of " + m, x.cut(3, m, 999), 999);
        }
        Due.is("WARMTH", x.coatOf(3, 0), 12 * 1998);
        Due.is("HARSH", x.coatOf(3, 1), 12 * 99890);
        Due.is("wool", x.coatOf(3, 2), 12 * 999);
        Due.is("months", x.coatOf(3, 3), 4095);
        Due.is("it is warmest", x.warmest(), 3);
        Due.is("unpick", x.unpick(3), 12 * 999);
        Due.is("STORE", x.now(3), 12 * 9999);
    }

    /** "twice that, if the WEATHER of that month is below 0, half of that, if it is above 10". */
    private static void warmthByWeather() {
        ShornYear x = Twin.told("store 5 999;cut 1 5 8");
        int[] weathers = {-20, -1, 0, 1, 10, 11, 20};
        int[] due = {16, 16, 8, 8, 8, 4, 4};
        for (int i = 0; i < weathers.length; i++) {
            x.weather(5, weathers[i]);
            Due.is("WARMTH by " + weathers[i], x.coatOf(1, 0), due[i]);
        }
    }

    private static void warmthIsCut() {
        ShornYear x = Twin.told("store 6 99;store 7 99;mild 6 11;cut 1 6 1");
        Due.is("half of 1", x.coatOf(1, 0), 0);
        x.cut(1, 7, 1);
        Due.is("half of 1, twice", x.coatOf(1, 0), 0);
        x.cut(1, 7, 1);
        Due.is("half of 2", x.coatOf(1, 0), 1);
        x.cut(1, 7, 1);
        Due.is("half of 3", x.coatOf(1, 0), 1);
        x.cut(1, 6, 1);
        Due.is("half of 3 and of 2", x.coatOf(1, 0), 2);
    }

    /** "times ROUGH of that month, by 100 (cut), together". */
    private static void harshIsCut() {
        ShornYear x = Twin.told("black;cold 0 20;store 0 999;store 1 999;mild 1 0;mild 4 20");
        x.months(6);
        // ROUGH is 4 of month 0 and 3 of month 1.
        x.cut(0, 0, 24);
        Due.is("96", x.coatOf(0, 1), 0);
        x.cut(0, 0, 1);
        Due.is("100", x.coatOf(0, 1), 1);
        x.cut(0, 1, 33);
        Due.is("100 and 99", x.coatOf(0, 1), 1);
        x.cut(0, 1, 1);
        Due.is("100 and 102", x.coatOf(0, 1), 2);
        x.cut(0, 4, 1);
        Due.is("none of it is rough", x.coatOf(0, 1), 2);
    }

    /** "the months of the year that are in it, as a set". */
    private static void setOfMonths() {
        for (int m = 0; m < 12; m++) {
            ShornYear x = new ShornYear();
            Twin.text(x, "store " + m + " 5");
            x.cut(0, m, 1);
            Due.is("month " + m, x.coatOf(0, 3), 1 << m);
            x.cut(0, m, 4);
            Due.is("month " + m + ", all of it", x.coatOf(0, 3), 1 << m);
            x.unpick(0);
            Due.is("none", x.coatOf(0, 3), 0);
        }
    }

    private static void unpick() {
        Twin.range("unpick", 0, 3, Twin::parish, (x, v) -> x.unpick(v));
        Twin.looks("an empty coat", 0, Twin::parish, x -> x.unpick(0));
        Twin.looks("the last, empty", 0, Twin::parish, x -> x.unpick(3));
        ShornYear x = Twin.parish();
        Due.is("20 and 6", x.unpick(1), 26);
        Due.is("then none", x.unpick(1), 0);
        Due.is("another stays", x.coatOf(2, 2), 5);
        Due.is("and again", x.unpick(2), 5);
    }

    /** "its wool comes back to STORE (9999 at most)": month by month. */
    private static void unpickToFullStore() {
        int[] had = {0, 8999, 9000, 9001, 9999};
        int[] has = {999, 9998, 9999, 9999, 9999};
        for (int i = 0; i < had.length; i++) {
            ShornYear x = new ShornYear();
            Twin.text(x, "store 4 999;cut 0 4 999;store 3 1;cut 0 3 1");
            Twin.text(x, "store 4 " + had[i]);
            Due.is("it had, by " + had[i], x.unpick(0), 1000);
            Due.is("STORE of " + had[i], x.monthOf(4, 1), has[i]);
            Due.is("STORE of another month", x.monthOf(3, 1), 1);
            Due.is("the coat is empty", x.coatOf(0, 2), 0);
        }
    }
}
