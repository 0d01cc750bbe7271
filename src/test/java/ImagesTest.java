/** Promises 35 to 39: image, undo, tear, count, status. */
public final class ImagesTest {
    public static void main(String[] args) {
        imageAndUndo();
        latest();
        tear();
        newOnesBehindUndo();
        count();
        status();
        Due.end();
    }

    private static void imageAndUndo() {
        ShornYear x = Due.told("ewe fright 55; pet; store 0 100; cut 2 0 40; cold 3 3");
        x.months(8);
        x.sheet(0, 16, 2);
        Due.lay(x, "ra");
        Due.is("image", x.image(), 1);
        int[] before = all(x);
        x.months(20);
        x.scare(0, 99);
        x.turn(1, Due.BLACK);
        x.ewe(3);
        x.weather(3, 20);
        x.cut(0, 0, 5);
        x.unpick(2);
        x.write(0, 1, 7);
        Due.lay(x, "m");
        x.now(99);
        Due.is("undo", x.undo(), 2);
        int[] behind = all(x);
        for (int i = 0; i < before.length; i++) {
            Due.is("as it was, " + i, behind[i], before[i]);
        }
        Due.is("THE TAPE is not kept", x.count(1), 3);
        Due.is("nor sheets", x.write(0, 1, 7), 7);
        Due.is("nor findings", x.status(-1), 1);
        Due.is("THE TAPE is as it was fed", x.parish(), 1);
        Due.is("a ram", x.of(2, 0), Due.RAM);
        Due.is("it stays kept", x.undo(), 2);
        Due.is("so it is", x.count(0), 2);
    }

    /** What section 1 tells of a parish of two. */
    private static int[] all(ShornYear x) {
        int[] row = new int[100];
        int n = 0;
        for (int m = 0; m < 12; m++) {
            for (int what = 0; what < 3; what++) {
                row[n++] = x.monthOf(m, what);
            }
            row[n++] = x.fleece(0, m);
            row[n++] = x.fleece(1, m);
        }
        for (int e = 0; e < 2; e++) {
            row[n++] = x.of(e, 0);
            row[n++] = x.of(e, 1);
            row[n++] = x.of(e, 2);
        }
        for (int c = 0; c < 4; c++) {
            row[n++] = x.coatOf(c, 2);
            row[n++] = x.coatOf(c, 3);
        }
        row[n++] = x.now(0);
        row[n++] = x.count(0);
        return row;
    }

    private static void latest() {
        ShornYear x = new ShornYear();
        Due.is("nothing is kept", x.undo(), Due.NONE);
        Due.is("status none", x.status(3), 1);
        x.image();
        x.ewe(0);
        x.image();
        x.ewe(0);
        Due.is("the latest", x.undo(), 1);
        Due.is("no earlier one", x.undo(), 1);
    }

    private static void tear() {
        ShornYear x = Due.told("ewe");
        Due.is("nothing", x.tear(), 0);
        x.image();
        x.image();
        Due.is("something", x.tear(), 1);
        Due.is("nothing again", x.tear(), 0);
        x.ewe(1);
        Due.is("no undo", x.undo(), Due.NONE);
        Due.is("nothing changed", x.count(0), 2);
        x.image();
        x.ewe(2);
        Due.is("kept again", x.undo(), 2);
    }

    private static void newOnesBehindUndo() {
        ShornYear x = new ShornYear();
        x.image();
        x.ewe(0);
        x.scare(0, 50);
        x.months(3);
        x.undo();
        Due.is("no fright of one that is gone", x.count(3), 0);
        Due.is("nor wool", x.now(5), 0);
        Due.is("a new one", x.ewe(2), 0);
        Due.is("kind", x.of(0, 0), Due.LAMB);
        Due.is("fright", x.of(0, 1), 0);
        Due.is("wool", x.of(0, 2), 0);
        Due.is("month 0", x.fleece(0, 0), 0);
        x.undo();
        Due.is("by text", Due.parish(x, "pet"), 1);
        Due.is("it is bare", x.of(0, 2), 0);
        Due.is("and calm", x.of(0, 1), 0);
    }

    private static void count() {
        ShornYear x = Due.told("ewe fright 99; ram fright 98; lamb; store 4 50; cut 0 4 1; cut 3 4 2; cut 1 4 0");
        Due.lay(x, "abcd");
        Due.is("ewes", x.count(0), 3);
        Due.is("bytes", x.count(1), 4);
        Due.is("coats", x.count(2), 2);
        Due.is("fright", x.count(3), 197);
        x.unpick(0);
        Due.is("a coat less", x.count(2), 1);
        Due.is("a coat that has no WARMTH", Due.told("store 7 1; cut 2 7 1").count(2), 1);
        Due.all("beyond", Due.BEYOND, x.count(-1), x.count(4));
        for (int wild : Due.WILD) {
            Due.is("count, wild " + wild, x.count(wild), Due.BEYOND);
        }
    }

    private static void status() {
        ShornYear x = new ShornYear();
        Due.is("not yet counted", x.status(7), Due.BEYOND);
        Due.is("from then on", x.status(0), 1);
        Due.is("below", x.status(-2), Due.BEYOND);
        Due.is("two", x.status(-1), 2);
        x.undo();
        x.write(0, 0, 0);
        x.sheet(0, 8, -1);
        x.cut(0, 0, 1);
        for (int i = 0; i < 9; i++) {
            x.ewe(0);
        }
        x.as(0, 1);
        x.as(0, 2);
        int[] due = {2, 1, 2, 1, 1, 1, 1};
        for (int w = 0; w < 7; w++) {
            Due.is("status(" + w + ")", x.status(w), due[w]);
        }
        Due.is("all", x.status(-1), 9);
        x.image();
        x.undo();
        Due.is("undo() takes none back", x.status(-1), 9);
        for (int wild : Due.WILD) {
            Due.is("status, wild " + wild, x.status(wild), Due.BEYOND);
        }
        Due.is("each is counted", x.status(0), 2 + Due.WILD.length);
    }
}
