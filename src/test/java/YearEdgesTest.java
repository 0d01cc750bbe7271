/** The bounds of promises 1 to 4: a new object, weather, monthOf, now. */
public final class YearEdgesTest {
    public static void main(String[] args) {
        noEwes();
        noWool();
        emptyTapeNoImage();
        allSheetsAreMissing();
        weather();
        weatherWas();
        monthOf();
        monthOfEnds();
        now();
        nowEnds();
        Due.end();
    }

    /** "No EWES": every call that takes one finds none. */
    private static void noEwes() {
        Due.is("EWES", new ShornYear().count(0), 0);
        for (int e = -1; e < 9; e++) {
            int ewe = e;
            refusedNew("of", x -> x.of(ewe, 0));
            refusedNew("fleece", x -> x.fleece(ewe, 0));
            refusedNew("can", x -> x.can(ewe, 0, 0));
            refusedNew("scare", x -> x.scare(ewe, 0));
            refusedNew("turn", x -> x.turn(ewe, 0));
            refusedNew("as", x -> x.as(ewe, 0));
            refusedNew("on", x -> x.on(ewe, 0, 0));
            refusedNew("calm", x -> x.calm(ewe));
            refusedNew("kind", x -> x.kind(ewe, 1));
            refusedNew("bears", x -> x.bears(ewe, 0, 0));
            Twin.refused("book of no ewe", Due.BEYOND, YearEdgesTest::withSheet, x -> x.book(0, ewe));
            Twin.refused("read of no ewe", Due.BEYOND, YearEdgesTest::withSheet, x -> x.read(0, ewe));
        }
    }

    private static void refusedNew(String call, Twin.Act act) {
        Twin.refused(call + " of no ewe", Due.BEYOND, ShornYear::new, act);
    }

    private static ShornYear withSheet() {
        ShornYear x = new ShornYear();
        x.sheet(0, 8, 3);
        return x;
    }

    /** "no wool": neither in STORE nor in coats, nor does any grow. */
    private static void noWool() {
        Twin.looks("STORE of all", 0, ShornYear::new, x -> x.now(3));
        Twin.looks("ROUGH of all", 0, ShornYear::new, x -> x.now(4));
        Twin.looks("FLEECES", 0, ShornYear::new, x -> x.now(5));
        Twin.looks("coats", 0, ShornYear::new, x -> x.count(2));
        Twin.looks("FRIGHT", 0, ShornYear::new, x -> x.count(3));
        Twin.looks("STORE in 120", 0, ShornYear::new, x -> x.then(5, 120, 0));
        Twin.looks("ROUGH in 120", 0, ShornYear::new, x -> x.then(5, 120, 1));
        Twin.looks("0 is enough", 0, ShornYear::new, x -> x.enough(5, 0));
        Twin.refused("1 is not", Due.NONE, ShornYear::new, x -> x.enough(5, 1));
        Twin.looks("any WEATHER for 0", 20, ShornYear::new, x -> x.cold(5, 60, 0));
        Twin.refused("none for 1", Due.NONE, ShornYear::new, x -> x.cold(5, 60, 1));
        Twin.refused("best", Due.NONE, ShornYear::new, x -> x.best(0, 1));
        Twin.looks("milder", 0, ShornYear::new, x -> x.milder(60));
        Twin.looks("warmest", 0, ShornYear::new, ShornYear::warmest);
        Twin.looks("unpick", 0, ShornYear::new, x -> x.unpick(3));
        Twin.refused("cut", Due.STATE, ShornYear::new, x -> x.cut(0, 0, 1));
        ShornYear y = new ShornYear();
        Due.is("months(60)", y.months(60), 0);
        Due.is("MONTH", y.now(0), 60);
    }

    /** "THE TAPE is empty, no image is kept." */
    private static void emptyTapeNoImage() {
        Twin.looks("bytes", 0, ShornYear::new, x -> x.count(1));
        Twin.looks("wipe", 0, ShornYear::new, ShornYear::wipe);
        Twin.looks("parish", -1, ShornYear::new, ShornYear::parish);
        Twin.refused("undo", Due.NONE, ShornYear::new, ShornYear::undo);
        Twin.looks("tear", 0, ShornYear::new, ShornYear::tear);
        for (int w = -1; w < 7; w++) {
            int which = w;
            Twin.looks("status(" + w + ")", 0, ShornYear::new, x -> x.status(which));
        }
    }

    /** "SHEETS 0 to 3 are .. MISSING (at first)." */
    private static void allSheetsAreMissing() {
        for (int s = 0; s < 4; s++) {
            int sheet = s;
            Twin.refused("write", Due.MISSING, ShornYear::new, x -> x.write(sheet, 0, 1));
            Twin.refused("copy", Due.MISSING, ShornYear::new, x -> x.copy(sheet, 0, 3 - sheet, 0, 0));
            Twin.refused("lays", Due.MISSING, ShornYear::new, x -> x.lays(sheet));
            Twin.refused("book", Due.MISSING, ShornYear::new, x -> x.book(sheet, 0));
            Twin.refused("read", Due.MISSING, ShornYear::new, x -> x.read(sheet, 0));
        }
    }

    /** "a month of the year", "WEATHER .. (-20 to 20 ..)". */
    private static void weather() {
        Twin.range("weather, month", 0, 11, Twin::parish, (x, v) -> x.weather(v, 7));
        Twin.range("weather", -20, 20, Twin::parish, (x, v) -> x.weather(0, v));
        Twin.range("weather of the last", -20, 20, Twin::parish, (x, v) -> x.weather(11, v));
        Twin.refused("both wrong", Due.BEYOND, Twin::parish, x -> x.weather(12, 21));
    }

    /** "becomes v: what it was". */
    private static void weatherWas() {
        ShornYear x = new ShornYear();
        Due.is("at first", x.weather(11, -20), -10);
        Due.is("-20", x.weather(11, 20), -20);
        Due.is("20", x.weather(11, 20), 20);
        Due.is("20 again", x.weather(11, 0), 20);
        Due.is("0", x.weather(11, -1), 0);
        Due.is("-1", x.weather(11, 0), -1);
        Due.is("the one before", x.monthOf(10, 0), 108);
        Due.is("the first", x.monthOf(0, 0), 88);
    }

    private static void monthOf() {
        Twin.range("monthOf, month", 0, 11, Twin::parish, (x, v) -> x.monthOf(v, 1));
        Twin.range("monthOf, what", 0, 2, Twin::parish, (x, v) -> x.monthOf(8, v));
        Twin.refused("both wrong", Due.BEYOND, Twin::parish, x -> x.monthOf(-1, 3));
    }

    /** "100 and WEATHER", STORE and ROUGH "(0 to 9999; 0 at first)". */
    private static void monthOfEnds() {
        Twin.looks("coldest", 80, () -> Twin.told("cold 0 20"), x -> x.monthOf(0, 0));
        Twin.looks("warmest", 120, () -> Twin.told("mild 11 20"), x -> x.monthOf(11, 0));
        Twin.looks("least STORE", 0, () -> Twin.told("store 11 0"), x -> x.monthOf(11, 1));
        Twin.looks("most STORE", 9999, () -> Twin.told("store 0 9999"), x -> x.monthOf(0, 1));
        Twin.looks("least ROUGH", 0, () -> Twin.told("store 0 9999"), x -> x.monthOf(0, 2));
        Twin.looks("most ROUGH", 9999, YearEdgesTest::old, x -> x.monthOf(11, 2));
    }

    /** So old a parish that each month has all the STORE and ROUGH that it can have. */
    static ShornYear old() {
        ShornYear x = TermsEdgesTest.eightBlack(-20);
        for (int i = 0; i < 63; i++) {
            x.months(60);
        }
        return x;
    }

    private static void now() {
        Twin.range("now", 0, 5, Twin::parish, (x, v) -> x.now(v));
        Twin.range("now of none", 0, 5, ShornYear::new, (x, v) -> x.now(v));
    }

    private static void nowEnds() {
        ShornYear x = old();
        Due.is("STORE of all", x.now(3), 12 * 9999);
        Due.is("ROUGH of all", x.now(4), 12 * 9999);
        Due.is("wool of all", x.now(5), 8 * 6 * 23);
        x.months(6);
        Due.is("STORE of all, later", x.now(3), 12 * 9999);
        Due.is("ROUGH of all, later", x.now(4), 12 * 9999);
        Due.is("no wool on any", x.now(5), 0);
        Due.is("coldest", x.now(2), 80);
        x.weather(6, 20);
        Due.is("warmest", x.now(2), 120);
    }
}
