/** Promises 12 to 14: cut, coatOf, unpick. */
public final class CoatsTest {
    public static void main(String[] args) {
        cut();
        cutFindings();
        coatOf();
        harsh();
        unpick();
        Due.end();
    }

    private static void cut() {
        ShornYear x = Due.told("store 0 1500; store 11 3");
        Due.is("cut 1", x.cut(0, 0, 1), 1);
        Due.is("cut 998 more", x.cut(0, 0, 998), 999);
        Due.is("store is less", x.monthOf(0, 1), 501);
        Due.is("for another coat", x.cut(3, 0, 501), 501);
        Due.is("nothing is left", x.monthOf(0, 1), 0);
        Due.is("all of month 11", x.cut(3, 11, 3), 3);
        Due.is("together", x.coatOf(3, 2), 504);
    }

    private static void cutFindings() {
        ShornYear x = Due.told("store 0 1001; store 1 998; store 2 10");
        Due.all("beyond", Due.BEYOND, x.cut(-1, 0, 1), x.cut(4, 0, 1), x.cut(0, -1, 1), x.cut(0, 12, 1),
            x.cut(0, 0, 0), x.cut(0, 0, -1), x.cut(0, 0, 1000));
        Due.is("one too many", x.cut(0, 1, 999), Due.STATE);
        Due.is("just all", x.cut(0, 1, 998), 998);
        x.cut(0, 0, 999);
        Due.is("the coat is full", x.cut(0, 0, 1), Due.FULL);
        Due.is("state is asked before full", x.cut(0, 0, 3), Due.STATE);
        Due.is("full by one", x.cut(0, 0, 2), Due.FULL);
        Due.is("another coat is not", x.cut(1, 0, 2), 2);
        Due.is("beyond is asked first", x.cut(4, 5, 999), Due.BEYOND);
        Due.is("a finding changes nothing", x.monthOf(2, 1), 10);
        Due.is("status state", x.status(4), 2);
        Due.is("status full", x.status(1), 2);
        for (int wild : Due.WILD) {
            Due.all("cut, wild " + wild, Due.BEYOND, x.cut(wild, 2, 1), x.cut(0, wild, 1), x.cut(0, 2, wild));
        }
    }

    private static void coatOf() {
        ShornYear x = Due.told("store 0 99; store 1 99; store 7 99; store 11 99");
        x.cut(2, 0, 7);
        x.cut(2, 1, 7);
        x.cut(2, 7, 7);
        x.cut(2, 11, 7);
        int[] weathers = {-20, -1, 0, 10, 11, 20};
        int[] warmth = {14, 14, 7, 7, 3, 3};
        for (int i = 0; i < weathers.length; i++) {
            x.weather(0, weathers[i]);
            Due.is("warmth by " + weathers[i], x.coatOf(2, 0), warmth[i] + 14 + 3 + 14);
        }
        Due.is("halves are cut month by month", x.coatOf(2, 0), 34);
        Due.is("all wool", x.coatOf(2, 2), 28);
        Due.is("months", x.coatOf(2, 3), 1 + 2 + 128 + 2048);
        Due.is("no rough", x.coatOf(2, 1), 0);
        Due.is("another coat", x.coatOf(1, 3), 0);
        Due.all("beyond", Due.BEYOND, x.coatOf(-1, 0), x.coatOf(4, 0), x.coatOf(0, -1), x.coatOf(0, 4));
        for (int wild : Due.WILD) {
            Due.all("coatOf, wild " + wild, Due.BEYOND, x.coatOf(wild, 0), x.coatOf(0, wild));
        }
    }

    private static void harsh() {
        ShornYear x = Due.told("black; store 0 900; store 1 900; store 2 900");
        x.months(6);
        // ROUGH is 4, 3, 3 now.
        x.cut(0, 0, 99);
        x.cut(0, 1, 66);
        x.cut(0, 2, 33);
        Due.is("each month is cut", x.coatOf(0, 1), 3 + 1 + 0);
        x.cut(0, 0, 1);
        x.cut(0, 1, 1);
        x.cut(0, 2, 1);
        Due.is("each month is more", x.coatOf(0, 1), 4 + 2 + 1);
        x.months(12);
        Due.is("by ROUGH as it is", x.coatOf(0, 1), 8 + 4 + 2);
    }

    private static void unpick() {
        ShornYear x = Due.told("store 0 9999; store 3 20; cut 1 0 999; cut 1 3 15; cut 2 3 1");
        Due.is("how much it had", x.unpick(1), 1014);
        Due.is("back in store", x.monthOf(0, 1), 9999);
        Due.is("and month 3", x.monthOf(3, 1), 19);
        Due.is("nothing in it", x.coatOf(1, 2), 0);
        Due.is("no months", x.coatOf(1, 3), 0);
        Due.is("another one stays", x.coatOf(2, 2), 1);
        Due.is("once more", x.unpick(1), 0);
        ShornYear y = Due.told("store 4 999; cut 0 4 999; store 4 9500");
        Due.is("had 999", y.unpick(0), 999);
        Due.is("9999 at most", y.monthOf(4, 1), 9999);
        Due.all("beyond", Due.BEYOND, y.unpick(-1), y.unpick(4));
        for (int wild : Due.WILD) {
            Due.is("unpick, wild " + wild, y.unpick(wild), Due.BEYOND);
        }
    }
}
