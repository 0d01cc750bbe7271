import java.lang.reflect.Method;
import java.util.Arrays;
import java.util.Comparator;

/** All promises: many runs of calls, each answer held against the Mirror's. */
public final class MirrorTest {
    private static final int RUNS = 400;
    private static final int CALLS = 512;
    private static final String[] WORDS = {"ewe", "ram", "lamb", "wether", "black", "pet", "fright", "cold", "mild",
        "cut", "store", "hen", "#", ";", " "};

    private static long seed = 20261118L;

    public static void main(String[] args) throws ReflectiveOperationException {
        Method[] face = Arrays.stream(ShornYear.class.getDeclaredMethods())
            .filter(m -> java.lang.reflect.Modifier.isPublic(m.getModifiers()))
            .sorted(Comparator.comparing(Method::getName)).toArray(Method[]::new);
        for (int run = 0; run < RUNS; run++) {
            if (!sameRun(face, run)) {
                break;
            }
        }
        Due.end();
    }

    /** A number from 0 to n - 1, the same in each run of the test. */
    private static int pick(int n) {
        seed = seed * 6364136223846793005L + 1442695040888963407L;
        return (int) ((seed >>> 33) % n);
    }

    private static boolean sameRun(Method[] face, int run) throws ReflectiveOperationException {
        ShornYear x = new ShornYear();
        Mirror y = new Mirror();
        // Some runs stay among wrong arguments, most among good ones.
        int wild = run % 8 == 0 ? 4 : 40;
        for (int i = 0; i < CALLS; i++) {
            if (pick(12) == 0) {
                i += text(x, y);
                continue;
            }
            Method m = face[pick(face.length)];
            long[] a = arguments(m, wild);
            if (!sameCall(x, y, m, a, run)) {
                return false;
            }
        }
        return true;
    }

    private static boolean sameCall(ShornYear x, Mirror y, Method m, long[] a, int run)
            throws ReflectiveOperationException {
        Object[] given = new Object[a.length];
        for (int i = 0; i < a.length; i++) {
            boolean isLong = m.getParameterTypes()[i] == long.class;
            given[i] = isLong ? (Object) a[i] : (Object) (int) a[i];
        }
        long got = ((Number) m.invoke(x, given)).longValue();
        long want = y.call(m.getName(), a);
        Due.is("run " + run + ": " + m.getName() + Arrays.toString(a), got, want);
        return got == want;
    }

    private static long[] arguments(Method m, int wild) {
        String name = m.getName();
        long[] a = new long[m.getParameterCount()];
        for (int i = 0; i < a.length; i++) {
            a[i] = pick(wild) == 0 ? Due.WILD[pick(Due.WILD.length)] : argument(name, i);
        }
        return a;
    }

    /** A number that mostly may stand there. */
    private static long argument(String name, int i) {
        switch (name + i) {
            case "weather1": case "can2": return pick(43) - 21;
            case "scare1": return pick(102) - 1;
            case "cut2": case "best1": return pick(4) == 0 ? pick(1002) : pick(40);
            case "months0": return pick(62);
            case "on1": case "then1": return pick(122);
            case "enough1": case "cold2": return pick(3) == 0 ? pick(10001) : pick(400);
            case "kind1": case "cold1": case "bears1": case "milder0": return pick(62);
            case "bears2": return pick(4) == 0 ? pick(1190) : pick(150);
            case "feed0": return pick(3) == 0 ? 0x20657765 : pick(1 << 30);
            case "feed1": return pick(6);
            case "sheet1": return new int[] {0, 8, 8, 16, 16, 64, 64, 7}[pick(8)];
            case "sheet2": return pick(3) == 0 ? pick(43) - 1 : pick(7);
            case "write1": return pick(8) - 1;
            case "write2": return pick(3) == 0 ? (long) pick(1 << 30) << pick(34) : pick(60) - 25;
            case "copy1": case "copy3": case "copy4": return pick(6) - 1;
            default: return small(name, i);
        }
    }

    private static long small(String name, int i) {
        switch (name + i) {
            case "weather0": case "monthOf0": case "fleece1": case "cut1": case "then0": case "enough0": case "cold0":
                return pick(14) - 1;
            case "now0": case "ewe0": case "turn1": case "as1": return pick(8) - 1;
            case "monthOf1": case "of1": case "can1": case "on2": case "then2": case "coatOf1": case "count0":
                return pick(6) - 1;
            case "status0": return pick(10) - 2;
            case "cut0": case "coatOf0": case "unpick0": case "best0": return pick(6) - 1;
            case "sheet0": case "write0": case "copy0": case "copy2": case "lays0": case "book0": case "read0":
                return pick(13) == 0 ? 4 : pick(4);
            default: return pick(10) - 1;
        }
    }

    /** Lays a text, mostly of good items, and reads it: how many calls that took. */
    private static int text(ShornYear x, Mirror y) {
        StringBuilder text = new StringBuilder();
        x.wipe();
        y.call("wipe", new long[0]);
        int items = 1 + pick(5);
        for (int i = 0; i < items; i++) {
            text.append(i == 0 ? "" : ";").append(item());
        }
        if (pick(4) == 0) {
            text.insert(pick(text.length() + 1), WORDS[pick(WORDS.length)]);
        }
        if (pick(6) == 0) {
            text.setLength(pick(text.length() + 1));
        }
        int calls = 2;
        for (int i = 0; i < text.length(); i += 4) {
            int n = Math.min(4, text.length() - i);
            int bytes = 0;
            for (int j = 0; j < n; j++) {
                bytes = bytes << 8 | text.charAt(i + j);
            }
            Due.is("feed", x.feed(bytes, n), y.call("feed", new long[] {bytes, n}));
            calls++;
        }
        Due.is("parish of '" + text + "'", x.parish(), y.call("parish", new long[0]));
        return calls;
    }

    private static String item() {
        switch (pick(6)) {
            case 0: return WORDS[pick(6)] + (pick(2) == 0 ? "" : " fright " + pick(101));
            case 1: return "cold " + pick(13) + " " + pick(22);
            case 2: return "mild" + pick(12) + "  " + pick(21);
            case 3: return " cut " + pick(4) + " " + pick(12) + " " + pick(60);
            case 4: return "store " + pick(12) + " " + pick(10001);
            default: return "store " + pick(12) + " " + pick(300) + " ";
        }
    }
}
