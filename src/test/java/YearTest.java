/** Promises 1 to 4: a new object, weather, monthOf, now. */
public final class YearTest {
    private static final int[] WEATHER = {-12, -5, 2, 9, -9, -2, 5, 12, -6, 1, 8, -10};

    public static void main(String[] args) {
        newObject();
        weather();
        monthOf();
        now();
        Due.end();
    }

    private static void newObject() {
        ShornYear x = new ShornYear();
        Due.all("a new object has none", 0, x.count(0), x.count(1), x.count(2), x.count(3));
        Due.all("no wool", 0, x.now(0), x.now(1), x.now(3), x.now(4), x.now(5));
        for (int m = 0; m < 12; m++) {
            Due.is("weather of " + m, x.monthOf(m, 0), 100 + WEATHER[m]);
            Due.is("store of " + m, x.monthOf(m, 1), 0);
            Due.is("rough of " + m, x.monthOf(m, 2), 0);
        }
        for (int c = 0; c < 4; c++) {
            Due.all("coat " + c, 0, x.coatOf(c, 0), x.coatOf(c, 1), x.coatOf(c, 2), x.coatOf(c, 3));
        }
        for (int w = -1; w < 7; w++) {
            Due.is("status(" + w + ")", x.status(w), 0);
        }
        Due.is("no ewe", x.of(0, 0), Due.BEYOND);
        Due.is("no image", x.undo(), Due.NONE);
        Due.is("nothing to tear", x.tear(), 0);
        for (int s = 0; s < 4; s++) {
            Due.is("sheet " + s + " is missing", x.write(s, 0, 0), Due.MISSING);
        }
        Due.is("empty tape", x.wipe(), 0);
    }

    private static void weather() {
        ShornYear x = new ShornYear();
        for (int m = 0; m < 12; m++) {
            Due.is("weather(" + m + ", -20)", x.weather(m, -20), WEATHER[m]);
            Due.is("weather(" + m + ", 20)", x.weather(m, 20), -20);
            Due.is("weather(" + m + ", 0)", x.weather(m, 0), 20);
        }
        x.weather(3, 7);
        Due.all("beyond", Due.BEYOND, x.weather(-1, 0), x.weather(12, 0), x.weather(3, -21), x.weather(3, 21));
        Due.is("a finding changes nothing", x.monthOf(3, 0), 107);
        for (int wild : Due.WILD) {
            Due.all("weather, wild " + wild, Due.BEYOND, x.weather(wild, 0), x.weather(0, wild));
        }
        Due.is("status", x.status(0), 4 + 2 * Due.WILD.length);
    }

    private static void monthOf() {
        ShornYear x = Due.told("store 0 17; store 11 9999; black");
        x.months(6);
        Due.is("store 0", x.monthOf(0, 1), 17 + 19);
        Due.is("store 5", x.monthOf(5, 1), 14);
        Due.is("store 11", x.monthOf(11, 1), 9999);
        Due.is("rough 0", x.monthOf(0, 2), 4);
        Due.is("rough 1", x.monthOf(1, 2), 3);
        Due.is("rough 11", x.monthOf(11, 2), 0);
        Due.is("weather 11", x.monthOf(11, 0), 90);
        x.weather(11, -20);
        Due.is("coldest", x.monthOf(11, 0), 80);
        x.weather(11, 20);
        Due.is("warmest", x.monthOf(11, 0), 120);
        Due.all("beyond", Due.BEYOND, x.monthOf(-1, 0), x.monthOf(12, 0), x.monthOf(0, -1), x.monthOf(0, 3));
        for (int wild : Due.WILD) {
            Due.all("monthOf, wild " + wild, Due.BEYOND, x.monthOf(wild, 0), x.monthOf(0, wild));
        }
    }

    private static void now() {
        ShornYear x = Due.told("ewe; ram; store 3 100; store 9 9999");
        Due.is("store of all", x.now(3), 10099);
        x.months(2);
        Due.is("month", x.now(0), 2);
        Due.is("of the year", x.now(1), 2);
        Due.is("its weather", x.now(2), 102);
        Due.is("wool", x.now(5), 28 + 36);
        Due.is("rough not before June", x.now(4), 0);
        x.months(4);
        Due.is("wool is off", x.now(5), 0);
        Due.is("store then", x.now(3), 10099 + 73 + 97);
        Due.is("rough then", x.now(4), 2 + 8);
        x.months(11);
        Due.is("month 17", x.now(0), 17);
        Due.is("June again", x.now(1), 5);
        Due.is("weather of June", x.now(2), 98);
        Due.is("wool of eleven", x.now(5), 130 + 174);
        Due.all("beyond", Due.BEYOND, x.now(-1), x.now(6));
        for (int wild : Due.WILD) {
            Due.is("now, wild " + wild, x.now(wild), Due.BEYOND);
        }
    }
}
