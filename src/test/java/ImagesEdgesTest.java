/** The bounds of promises 35 to 39: image, undo, tear, count, status. */
public final class ImagesEdgesTest {
    public static void main(String[] args) {
        imageOfNothing();
        imageOfEverything();
        imageTwice();
        tapeIsNotKept();
        sheetsAreNotKept();
        imageInTheLastMonth();
        undoOfNothing();
        undoTakesNoFindingBack();
        tear();
        count();
        countEnds();
        status();
        statusEnds();
        everyFindingIsCounted();
        Due.end();
    }

    /** "All that section 1 tells .. is kept: 1.", of an empty parish. */
    private static void imageOfNothing() {
        ShornYear x = new ShornYear();
        Due.is("image", x.image(), 1);
        for (int e = 0; e < 8; e++) {
            x.ewe(e % 6);
        }
        x.months(60);
        x.cut(0, 0, 9);
        Due.is("undo", x.undo(), 0);
        Due.is("EWES", x.count(0), 0);
        Due.is("MONTH", x.now(0), 0);
        Due.is("STORE", x.now(3), 0);
        Due.is("ROUGH", x.now(4), 0);
        Due.is("FLEECES", x.now(5), 0);
        Due.is("coats", x.count(2), 0);
        Due.is("no such ewe", x.of(0, 0), Due.BEYOND);
        Due.is("the first again", x.ewe(5), 0);
        Due.is("it is bare", x.of(0, 2), 0);
        Due.is("it is calm", x.of(0, 1), 0);
    }

    /** Of as much as can be: all of it comes back. */
    private static void imageOfEverything() {
        ShornYear x = everything();
        x.months(7);
        x.weather(0, 20);
        x.weather(11, 20);
        x.scare(0, 1);
        x.scare(7, 1);
        x.turn(0, 5);
        x.turn(7, 5);
        x.unpick(0);
        x.cut(1, 4, 9);
        Due.is("undo", x.undo(), 8);
        Twin.same("undo", x, everything());
        ShornYear y = everything();
        Due.is("undo at once", y.undo(), 8);
        Twin.same("undo at once", y, everything());
    }

    private static ShornYear everything() {
        ShornYear x = Twin.told("ewe fright 99;ram fright 99;lamb;wether;black;pet;ewe;ram fright 98;store 0 9999");
        Twin.text(x, "cut 0 0 999;cut 3 0 999;store 0 9999;store 11 1;cold 11 20");
        x.months(9);
        x.image();
        return x;
    }

    /** "what was kept latest (which stays)". */
    private static void imageTwice() {
        ShornYear x = new ShornYear();
        x.image();
        x.ewe(0);
        Due.is("image again", x.image(), 1);
        x.ewe(0);
        x.ewe(0);
        for (int i = 0; i < 3; i++) {
            Due.is("the latest", x.undo(), 1);
            Due.is("EWES", x.count(0), 1);
            x.ewe(3);
        }
        x.image();
        Due.is("the latest of all", x.undo(), 2);
    }

    /** "(THE TAPE not)". */
    private static void tapeIsNotKept() {
        ShornYear x = new ShornYear();
        Twin.lay(x, "ewe;ra");
        x.image();
        x.wipe();
        x.undo();
        Due.is("a wiped tape stays empty", x.count(1), 0);
        x.image();
        Twin.lay(x, "ewe;ram");
        x.undo();
        Due.is("a fed tape stays", x.count(1), 7);
        Due.is("as it was fed", x.parish(), 2);
    }

    /** Section 1 does not tell of SHEETS, so they are not kept. */
    private static void sheetsAreNotKept() {
        ShornYear x = new ShornYear();
        x.sheet(0, 8, 2);
        x.image();
        x.write(0, 1, 7);
        x.sheet(1, 8, 2);
        x.undo();
        Due.is("a number", x.write(0, 1, 7), 7);
        Due.is("a sheet", x.write(1, 1, 7), 0);
        x.image();
        x.sheet(0, 0, 0);
        x.undo();
        Due.is("a sheet that is gone", x.write(0, 1, 7), Due.MISSING);
    }

    private static void imageInTheLastMonth() {
        ShornYear x = Twin.inMonth(9999);
        Due.is("image", x.image(), 1);
        Due.is("no more", x.months(1), Due.STATE);
        Due.is("undo", x.undo(), 2);
        Due.is("MONTH", x.now(0), 9999);
        ShornYear y = Twin.inMonth(9999);
        Due.is("undo of an early one", y.undo(), 1);
        Due.is("its MONTH", y.now(0), 3);
        Due.is("months go again", y.months(60) > 0 ? 1 : 0, 1);
        Due.is("to", y.now(0), 63);
    }

    /** "NONE: nothing is kept." */
    private static void undoOfNothing() {
        Twin.refused("undo of a new one", Due.NONE, ShornYear::new, ShornYear::undo);
        Twin.refused("undo of a torn one", Due.NONE, () -> {
            ShornYear x = Twin.full();
            x.tear();
            return x;
        }, ShornYear::undo);
    }

    /** "(undo() takes none back)". */
    private static void undoTakesNoFindingBack() {
        ShornYear x = new ShornYear();
        x.image();
        x.now(6);
        x.undo();
        Due.is("BEYOND", x.status(0), 1);
        x.tear();
        x.undo();
        Due.is("NONE", x.status(3), 1);
        x.image();
        x.undo();
        Due.is("all", x.status(-1), 2);
    }

    /** "Nothing is kept: 1 if something was, else 0." */
    private static void tear() {
        Twin.looks("nothing was", 0, ShornYear::new, ShornYear::tear);
        ShornYear x = Twin.full();
        Due.is("something was", x.tear(), 1);
        Due.is("no longer", x.tear(), 0);
        Due.is("EWES stay", x.count(0), 8);
        Due.is("undo", x.undo(), Due.NONE);
        Due.is("image", x.image(), 1);
        Due.is("undo then", x.undo(), 8);
        Due.is("it stays", x.tear(), 1);
        ShornYear y = new ShornYear();
        y.image();
        Due.is("an image of nothing is something", y.tear(), 1);
    }

    /** "BEYOND: another what." */
    private static void count() {
        Twin.range("count", 0, 3, Twin::parish, (x, v) -> x.count(v));
        Twin.range("count of none", 0, 3, ShornYear::new, (x, v) -> x.count(v));
    }

    private static void countEnds() {
        for (int what = 0; what < 4; what++) {
            Due.is("none of " + what, new ShornYear().count(what), 0);
        }
        ShornYear x = new ShornYear();
        for (int e = 0; e < 8; e++) {
            x.ewe(e % 6);
            x.scare(e, 99);
        }
        Twin.text(x, "store 11 4;cut 0 11 1;cut 1 11 1;cut 2 11 1;cut 3 11 1");
        Twin.lay(x, " ".repeat(120));
        Due.is("EWES", x.count(0), 8);
        Due.is("bytes", x.count(1), 120);
        Due.is("coats", x.count(2), 4);
        Due.is("FRIGHT", x.count(3), 792);
        x.scare(7, 0);
        Due.is("FRIGHT of seven", x.count(3), 693);
        x.unpick(3);
        Due.is("coats that have any", x.count(2), 3);
    }

    /** "which -1: all, 0 to 6: BEYOND to SIZE. BEYOND (counted from then on): another one." */
    private static void status() {
        Twin.range("status", -1, 6, Twin::parish, (x, v) -> x.status(v));
        ShornYear x = new ShornYear();
        int[] wrong = {-2, 7, Integer.MIN_VALUE, Integer.MAX_VALUE, Integer.MIN_VALUE + 1, Integer.MAX_VALUE - 1};
        for (int i = 0; i < wrong.length; i++) {
            Due.is("before", x.status(0), i);
            Due.is("status(" + wrong[i] + ")", x.status(wrong[i]), Due.BEYOND);
            Due.is("from then on", x.status(0), i + 1);
            Due.is("of all", x.status(-1), i + 1);
        }
    }

    private static void statusEnds() {
        for (int w = -1; w < 7; w++) {
            int which = w;
            Twin.looks("status(" + w + ") of a new one", 0, ShornYear::new, x -> x.status(which));
        }
        ShornYear x = new ShornYear();
        for (int i = 0; i < 500; i++) {
            x.undo();
        }
        Due.is("as many as can be", x.status(3), 500);
        Due.is("of all", x.status(-1), 500);
        Due.is("of others", x.status(4), 0);
    }

    /** "How many acts answered a finding ever": each at its own place. */
    private static void everyFindingIsCounted() {
        ShornYear x = new ShornYear();
        Twin.Act[] acts = {y -> y.now(-1), y -> y.ewe(0), y -> y.as(0, 5), ShornYear::undo, y -> y.cut(0, 0, 1),
            y -> y.lays(0), y -> y.sheet(0, 0, -1)};
        for (int e = 0; e < 8; e++) {
            x.ewe(0);
        }
        int[] due = new int[7];
        int all = 0;
        for (int w = 0; w < 7; w++) {
            for (int i = 0; i <= w; i++) {
                Due.is("finding " + w, acts[w].on(x), Due.BEYOND - w);
                due[w]++;
                all++;
            }
            for (int v = 0; v < 7; v++) {
                Due.is("status(" + v + ")", x.status(v), due[v]);
            }
            Due.is("status(-1)", x.status(-1), all);
        }
        Due.is("a FAULT is none", x.parish(), -1);
        Due.is("status(-1) then", x.status(-1), all);
    }
}
