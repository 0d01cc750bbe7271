/** Holds what a test asks against what is due, and ends it with 1 if anything was wrong. */
final class Due {
    static final int BEYOND = -1000000001;
    static final int FULL = -1000000002;
    static final int KIND = -1000000003;
    static final int NONE = -1000000004;
    static final int STATE = -1000000005;
    static final int MISSING = -1000000006;
    static final int SIZE = -1000000007;

    static final int EWE = 0;
    static final int RAM = 1;
    static final int LAMB = 2;
    static final int WETHER = 3;
    static final int BLACK = 4;
    static final int PET = 5;

    /** The numbers that wrong arguments are made of. */
    static final int[] WILD = {Integer.MIN_VALUE, Integer.MIN_VALUE + 1, -1000, -21,
        10000, 1 << 30, Integer.MAX_VALUE - 1, Integer.MAX_VALUE};

    private static int wrong = 0;

    private Due() {
    }

    static void is(String call, long got, long want) {
        if (got != want) {
            wrong++;
            System.out.println(call + " answered " + got + ", due is " + want);
        }
    }

    static void all(String call, long want, long... got) {
        for (int i = 0; i < got.length; i++) {
            is(call + " [" + i + "]", got[i], want);
        }
    }

    /** Lays a text on the tape, byte by byte. */
    static void lay(ShornYear x, String text) {
        for (int i = 0; i < text.length(); i++) {
            x.feed(text.charAt(i), 1);
        }
    }

    static int parish(ShornYear x, String text) {
        lay(x, text);
        return x.parish();
    }

    static ShornYear told(String text) {
        ShornYear x = new ShornYear();
        if (parish(x, text) < 0) {
            is("the text " + text, 0, 1);
        }
        return x;
    }

    static void end() {
        System.out.println(wrong == 0 ? "all answers are as due" : wrong + " answers are not as due");
        if (wrong != 0) {
            System.exit(1);
        }
    }
}
