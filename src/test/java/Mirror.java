import java.util.ArrayList;
import java.util.Arrays;
import java.util.List;
import java.util.function.ToIntFunction;
import java.util.regex.Matcher;
import java.util.regex.Pattern;

/** A second telling of the document, slow and with no care for room, to hold ShornYear against. */
final class Mirror {
    private static class Kind {
        int grows(int w) { return w < 0 ? 10 + Math.abs(w) / 2 : 10; }
        int loses(int f) { return f / 10; }
        int calms() { return 10; }
        int burrs(int w) { return w < -8 ? 1 : 0; }
    }

    private static class Ram extends Kind {
        @Override int grows(int w) { return super.grows(w) + 4; }
        @Override int loses(int f) { return 0; }
        @Override int calms() { return 2 * super.calms(); }
        @Override int burrs(int w) { return super.burrs(w) + 1; }
    }

    private static class Lamb extends Kind {
        @Override int grows(int w) { return super.grows(w) / 2; }
        @Override int loses(int f) { return super.loses(f) * 2; }
        @Override int calms() { return 5; }
        @Override int burrs(int w) { return 0; }
    }

    private static final class Wether extends Kind {
        @Override int grows(int w) { return 12; }
    }

    private static final class Black extends Ram {
        @Override int grows(int w) { return w > 10 ? 0 : super.grows(w); }
        @Override int loses(int f) { return super.loses(f) + 1; }
        @Override int burrs(int w) { return super.burrs(w) + 2; }
    }

    private static final class Pet extends Lamb {
        @Override int grows(int w) { return super.grows(w) + 6; }
        @Override int loses(int f) { return Math.max(0, super.loses(f) - 2); }
        @Override int calms() { return super.calms() + 10; }
    }

    private static final Kind[] KINDS = {new Kind(), new Ram(), new Lamb(), new Wether(), new Black(), new Pet()};
    private static final List<String> NAMES = List.of("ewe", "ram", "lamb", "wether", "black", "pet");

    private static final class Ewe {
        int kind;
        int fright;
        int[] fleece = new int[12];

        int wool() { return Arrays.stream(fleece).sum(); }
    }

    private static final class World {
        int month;
        int[] weather = new int[12];
        int[] store = new int[12];
        int[] rough = new int[12];
        int[][] coats = new int[4][12];
        List<Ewe> ewes = new ArrayList<>();

        World twin() {
            World w = new World();
            w.month = month;
            w.weather = weather.clone();
            w.store = store.clone();
            w.rough = rough.clone();
            for (int c = 0; c < 4; c++) {
                w.coats[c] = coats[c].clone();
            }
            for (Ewe e : ewes) {
                Ewe f = new Ewe();
                f.kind = e.kind;
                f.fright = e.fright;
                f.fleece = e.fleece.clone();
                w.ewes.add(f);
            }
            return w;
        }

        World ahead(int n) {
            World w = twin();
            for (int i = 0; i < n; i++) {
                w.go();
            }
            return w;
        }

        void go() {
            int m = month % 12;
            for (Ewe e : ewes) {
                Kind k = KINDS[e.kind];
                int grows = k.grows(weather[m]);
                e.fleece[m] = Math.max(0, grows - k.loses(e.fright));
                e.fright = Math.max(0, e.fright - k.calms());
            }
            if (m == 5) {
                for (Ewe e : ewes) {
                    for (int j = 0; j < 12; j++) {
                        store[j] = Math.min(9999, store[j] + e.fleece[j]);
                        if (e.fleece[j] > 0) {
                            rough[j] = Math.min(9999, rough[j] + KINDS[e.kind].burrs(weather[j]));
                        }
                    }
                    e.fleece = new int[12];
                }
            }
            month++;
        }

        int warmth(int c) {
            int all = 0;
            for (int m = 0; m < 12; m++) {
                int has = coats[c][m];
                all += weather[m] < 0 ? has * 2 : weather[m] > 10 ? has / 2 : has;
            }
            return all;
        }

        boolean mayCut(int c, int m, int n) { return n <= store[m] && coats[c][m] + n <= 999; }

        void toCut(int c, int m, int n) {
            store[m] -= n;
            coats[c][m] += n;
        }
    }

    private World w = new World();
    private World kept;
    private final StringBuilder tape = new StringBuilder();
    private final long[][] sheets = new long[4][];
    private final int[] bits = new int[4];
    private final int[] told = new int[7];

    Mirror() {
        for (int m = 0; m < 12; m++) {
            w.weather[m] = (7 * m) % 25 - 12;
        }
    }

    private int found(int finding) {
        told[-1000000001 - finding]++;
        return finding;
    }

    private static int sum(int[] row) { return Arrays.stream(row).sum(); }

    private static boolean in(long v, long a, long b) { return v >= a && v <= b; }

    private boolean noEwe(int e) { return !in(e, 0, w.ewes.size() - 1); }

    long call(String name, long[] a) {
        int p = a.length > 0 ? (int) a[0] : 0;
        int q = a.length > 1 ? (int) a[1] : 0;
        int r = a.length > 2 ? (int) a[2] : 0;
        switch (name) {
            case "weather": return weather(p, q);
            case "monthOf": return monthOf(p, q);
            case "now": return now(p);
            case "ewe": return ewe(p);
            case "of": return of(p, q);
            case "fleece": return noEwe(p) || !in(q, 0, 11) ? found(Due.BEYOND) : w.ewes.get(p).fleece[q];
            case "can": return can(p, q, r);
            case "scare": return scare(p, q);
            case "turn": return turn(p, q);
            case "as": return as(p, q);
            case "cut": return cut(p, q, r);
            case "coatOf": return coatOf(p, q);
            case "unpick": return unpick(p);
            case "months": return months(p);
            case "on": return on(p, q, r);
            case "then": return then(p, q, r);
            case "enough": return enough(p, q);
            case "calm": return calm(p);
            default: return callMore(name, a, p, q, r);
        }
    }

    private long callMore(String name, long[] a, int p, int q, int r) {
        switch (name) {
            case "kind": return kind(p, q);
            case "cold": return cold(p, q, r);
            case "best": return best(p, q);
            case "bears": return bears(p, q, r);
            case "milder": return milder(p);
            case "warmest": return first(4, false, c -> w.warmth(c));
            case "feed": return feed(p, q);
            case "wipe": return wipe();
            case "parish": return parish();
            case "sheet": return sheet(p, q, r);
            case "write": return write(p, q, a[2]);
            case "copy": return copy(p, q, r, (int) a[3], (int) a[4]);
            case "lays": return lays(p);
            case "book": return book(p, q);
            case "read": return read(p, q);
            case "image":
                kept = w.twin();
                return 1;
            case "undo": return undo();
            case "tear": return tear();
            case "count": return count(p);
            case "status": return status(p);
            default: throw new IllegalStateException(name);
        }
    }

    private int weather(int m, int v) {
        if (!in(m, 0, 11) || !in(v, -20, 20)) return found(Due.BEYOND);
        int was = w.weather[m];
        w.weather[m] = v;
        return was;
    }

    private int monthOf(int m, int what) {
        if (!in(m, 0, 11) || !in(what, 0, 2)) return found(Due.BEYOND);
        return new int[] {100 + w.weather[m], w.store[m], w.rough[m]}[what];
    }

    private int now(int what) {
        if (!in(what, 0, 5)) return found(Due.BEYOND);
        int wool = w.ewes.stream().mapToInt(Ewe::wool).sum();
        return new int[] {w.month, w.month % 12, 100 + w.weather[w.month % 12], sum(w.store), sum(w.rough), wool}[what];
    }

    private int ewe(int k) {
        if (!in(k, 0, 5)) return found(Due.BEYOND);
        if (w.ewes.size() == 8) return found(Due.FULL);
        Ewe e = new Ewe();
        e.kind = k;
        w.ewes.add(e);
        return w.ewes.size() - 1;
    }

    private int of(int e, int what) {
        if (noEwe(e) || !in(what, 0, 3)) return found(Due.BEYOND);
        Ewe one = w.ewes.get(e);
        return new int[] {one.kind, one.fright, one.wool(), KINDS[one.kind].calms()}[what];
    }

    private int can(int e, int what, int v) {
        if (noEwe(e) || !in(what, 0, 2) || !in(v, -20, 20)) return found(Due.BEYOND);
        Ewe one = w.ewes.get(e);
        Kind k = KINDS[one.kind];
        return new int[] {k.grows(v), k.loses(one.fright), k.burrs(v)}[what];
    }

    private int scare(int e, int v) {
        if (noEwe(e) || !in(v, 0, 99)) return found(Due.BEYOND);
        int was = w.ewes.get(e).fright;
        w.ewes.get(e).fright = v;
        return was;
    }

    private int turn(int e, int k) {
        if (noEwe(e) || !in(k, 0, 5)) return found(Due.BEYOND);
        int was = w.ewes.get(e).kind;
        w.ewes.get(e).kind = k;
        return was;
    }

    private int as(int e, int k) {
        if (noEwe(e) || !in(k, 0, 5)) return found(Due.BEYOND);
        Ewe one = w.ewes.get(e);
        return KINDS[k].getClass().isInstance(KINDS[one.kind]) ? one.fright : found(Due.KIND);
    }

    private int cut(int c, int m, int n) {
        if (!in(c, 0, 3) || !in(m, 0, 11) || !in(n, 1, 999)) return found(Due.BEYOND);
        if (w.store[m] < n) return found(Due.STATE);
        if (w.coats[c][m] + n > 999) return found(Due.FULL);
        w.toCut(c, m, n);
        return w.coats[c][m];
    }

    private int coatOf(int c, int what) {
        if (!in(c, 0, 3) || !in(what, 0, 3)) return found(Due.BEYOND);
        int harsh = 0;
        int set = 0;
        for (int m = 0; m < 12; m++) {
            harsh += w.coats[c][m] * w.rough[m] / 100;
            set += w.coats[c][m] > 0 ? 1 << m : 0;
        }
        return new int[] {w.warmth(c), harsh, sum(w.coats[c]), set}[what];
    }

    private int unpick(int c) {
        if (!in(c, 0, 3)) return found(Due.BEYOND);
        int had = sum(w.coats[c]);
        for (int m = 0; m < 12; m++) {
            w.store[m] = Math.min(9999, w.store[m] + w.coats[c][m]);
        }
        w.coats[c] = new int[12];
        return had;
    }

    private int months(int n) {
        if (!in(n, 1, 60)) return found(Due.BEYOND);
        if (w.month + n > 9999) return found(Due.STATE);
        w = w.ahead(n);
        return sum(w.store);
    }

    private int on(int e, int n, int what) {
        if (noEwe(e) || !in(n, 0, 120) || !in(what, 0, 1)) return found(Due.BEYOND);
        Ewe one = w.ahead(n).ewes.get(e);
        return what == 0 ? one.wool() : one.fright;
    }

    private int then(int m, int n, int what) {
        if (!in(m, 0, 11) || !in(n, 0, 120) || !in(what, 0, 1)) return found(Due.BEYOND);
        World later = w.ahead(n);
        return what == 0 ? later.store[m] : later.rough[m];
    }

    private int enough(int m, int v) {
        if (!in(m, 0, 11) || !in(v, 0, 9999)) return found(Due.BEYOND);
        for (int n = 0; n <= 120; n++) {
            if (w.ahead(n).store[m] >= v) return n;
        }
        return found(Due.NONE);
    }

    private int calm(int e) {
        if (noEwe(e)) return found(Due.BEYOND);
        for (int n = 0; n <= 120; n++) {
            if (w.ahead(n).ewes.get(e).fright == 0) return n;
        }
        return found(Due.NONE);
    }

    /** The first of 0, 1, .. whose number is greatest (or least). */
    private static int first(int many, boolean least, ToIntFunction<Integer> number) {
        int at = 0;
        for (int i = 1; i < many; i++) {
            int a = number.applyAsInt(i);
            int b = number.applyAsInt(at);
            if (least ? a < b : a > b) at = i;
        }
        return at;
    }

    private int kind(int e, int n) {
        if (noEwe(e) || !in(n, 1, 60)) return found(Due.BEYOND);
        return first(6, false, k -> {
            World t = w.twin();
            t.ewes.get(e).kind = k;
            return sum(t.ahead(n).store);
        });
    }

    private int cold(int m, int n, int v) {
        if (!in(m, 0, 11) || !in(n, 1, 60) || !in(v, 0, 9999)) return found(Due.BEYOND);
        int best = Due.NONE;
        for (int c = -20; c <= 20; c++) {
            World t = w.twin();
            t.weather[m] = c;
            if (t.ahead(n).store[m] >= v) best = c;
        }
        return best == Due.NONE ? found(Due.NONE) : best;
    }

    private int best(int c, int n) {
        if (!in(c, 0, 3) || !in(n, 1, 999)) return found(Due.BEYOND);
        int m = first(12, false, i -> {
            World t = w.twin();
            if (!t.mayCut(c, i, n)) return -1;
            t.toCut(c, i, n);
            return t.warmth(c);
        });
        return w.mayCut(c, m, n) ? m : found(Due.NONE);
    }

    private int bears(int e, int n, int v) {
        if (noEwe(e) || !in(n, 0, 60) || !in(v, 0, 1188)) return found(Due.BEYOND);
        int best = Due.NONE;
        for (int f = 0; f <= 99; f++) {
            World t = w.twin();
            t.ewes.get(e).fright = f;
            if (t.ahead(n).ewes.get(e).wool() >= v) best = f;
        }
        return best == Due.NONE ? found(Due.NONE) : best;
    }

    private int milder(int n) {
        if (!in(n, 1, 60)) return found(Due.BEYOND);
        return first(12, true, m -> {
            World t = w.twin();
            t.weather[m] = Math.min(20, t.weather[m] + 5);
            return sum(t.ahead(n).rough);
        });
    }

    private int feed(int bytes, int n) {
        if (!in(n, 1, 4)) return found(Due.BEYOND);
        if (tape.length() + n > 120) return found(Due.FULL);
        for (int i = n; i > 0; i--) {
            tape.append((char) ((bytes >>> (8 * (i - 1))) & 255));
        }
        return tape.length();
    }

    private int wipe() {
        int had = tape.length();
        tape.setLength(0);
        return had;
    }

    private static final Pattern TOKEN = Pattern.compile("[a-z]+|[0-9]+|;|[^ ]", Pattern.DOTALL);

    private int parish() {
        List<String> tokens = new ArrayList<>();
        List<Integer> places = new ArrayList<>();
        Matcher in = TOKEN.matcher(tape);
        while (in.find()) {
            tokens.add(in.group());
            places.add(in.start());
        }
        tokens.add("");
        places.add(tape.length());
        tape.setLength(0);
        World t = w.twin();
        int at = 0;
        int items = 0;
        while (true) {
            int next = item(t, tokens, at);
            if (next <= 0) return -1 - places.get(-next);
            items++;
            if (tokens.get(next).isEmpty()) break;
            if (!tokens.get(next).equals(";")) return -1 - places.get(next);
            at = next + 1;
        }
        w = t;
        return items;
    }

    /** The token behind an ITEM, or 0 less the token that can't stand there. */
    private static int item(World t, List<String> tokens, int at) {
        String word = tokens.get(at);
        int k = NAMES.indexOf(word);
        if (k >= 0) {
            if (t.ewes.size() == 8) return -at;
            Ewe e = new Ewe();
            e.kind = k;
            t.ewes.add(e);
            if (!tokens.get(at + 1).equals("fright")) return at + 1;
            e.fright = number(tokens, at + 2, 99);
            return e.fright < 0 ? -at - 2 : at + 3;
        }
        if (word.equals("cut")) {
            int c = number(tokens, at + 1, 3);
            if (c < 0) return -at - 1;
            int m = number(tokens, at + 2, 11);
            if (m < 0) return -at - 2;
            int n = number(tokens, at + 3, 9999);
            if (n < 0 || !t.mayCut(c, m, n)) return -at - 3;
            t.toCut(c, m, n);
            return at + 4;
        }
        if (!List.of("cold", "mild", "store").contains(word)) return -at;
        int m = number(tokens, at + 1, 11);
        if (m < 0) return -at - 1;
        int n = number(tokens, at + 2, word.equals("store") ? 9999 : 20);
        if (n < 0) return -at - 2;
        if (word.equals("store")) t.store[m] = n;
        else t.weather[m] = word.equals("cold") ? -n : n;
        return at + 3;
    }

    private static int number(List<String> tokens, int at, int most) {
        String text = tokens.get(at);
        if (!text.matches("[0-9]+")) return -1;
        String bare = text.replaceFirst("^0+", "");
        if (bare.length() > 4) return -1;
        int v = bare.isEmpty() ? 0 : Integer.parseInt(bare);
        return v > most ? -1 : v;
    }

    private int sheet(int s, int b, int n) {
        if (!in(s, 0, 3) || !List.of(0, 8, 16, 64).contains(b)) return found(Due.BEYOND);
        if (n < 0) return found(Due.SIZE);
        if (n > 40) return found(Due.BEYOND);
        bits[s] = b;
        sheets[s] = b == 0 ? null : new long[n];
        return b == 0 ? 0 : n;
    }

    private static long low(long v, int b) { return v << (64 - b) >> (64 - b); }

    private long write(int s, int i, long v) {
        if (!in(s, 0, 3)) return found(Due.BEYOND);
        if (sheets[s] == null) return found(Due.MISSING);
        if (!in(i, 0, sheets[s].length - 1)) return found(Due.BEYOND);
        long was = sheets[s][i];
        sheets[s][i] = low(v, bits[s]);
        return was;
    }

    private int copy(int s, int from, int t, int to, int n) {
        if (!in(s, 0, 3) || !in(t, 0, 3)) return found(Due.BEYOND);
        if (sheets[s] == null || sheets[t] == null) return found(Due.MISSING);
        if (bits[s] != bits[t]) return found(Due.KIND);
        if (from < 0 || to < 0 || n < 0 || (long) from + n > sheets[s].length || (long) to + n > sheets[t].length) {
            return found(Due.BEYOND);
        }
        long[] were = sheets[s].clone();
        for (int i = 0; i < n; i++) {
            sheets[t][to + i] = were[from + i];
        }
        return n;
    }

    private int lays(int s) {
        if (!in(s, 0, 3)) return found(Due.BEYOND);
        if (sheets[s] == null) return found(Due.MISSING);
        int came = 0;
        for (int i = 0; i < sheets[s].length; i++) {
            if (i < 12 && in(sheets[s][i], -20, 20)) {
                w.weather[i] = (int) sheets[s][i];
                came++;
            }
        }
        return came;
    }

    private int book(int s, int e) {
        if (!in(s, 0, 3)) return found(Due.BEYOND);
        if (sheets[s] == null) return found(Due.MISSING);
        if (noEwe(e)) return found(Due.BEYOND);
        for (int i = 0; i < sheets[s].length; i++) {
            sheets[s][i] = low(w.ahead(i).ewes.get(e).wool(), bits[s]);
        }
        return sheets[s].length;
    }

    private int read(int s, int e) {
        if (!in(s, 0, 3)) return found(Due.BEYOND);
        if (sheets[s] == null) return found(Due.MISSING);
        if (noEwe(e)) return found(Due.BEYOND);
        int pairs = 0;
        for (int k = 0; k < 6; k++) {
            for (int f = 0; f < 100; f++) {
                World t = w.twin();
                t.ewes.get(e).kind = k;
                t.ewes.get(e).fright = f;
                boolean same = true;
                for (int i = 0; i < sheets[s].length && same; i++) {
                    same = sheets[s][i] == t.ewes.get(e).wool();
                    t.go();
                }
                pairs += same ? 1 : 0;
            }
        }
        return pairs;
    }

    private int undo() {
        if (kept == null) return found(Due.NONE);
        w = kept.twin();
        return w.ewes.size();
    }

    private int tear() {
        int was = kept == null ? 0 : 1;
        kept = null;
        return was;
    }

    private int count(int what) {
        switch (what) {
            case 0: return w.ewes.size();
            case 1: return tape.length();
            case 2: return (int) Arrays.stream(w.coats).filter(c -> sum(c) > 0).count();
            case 3: return w.ewes.stream().mapToInt(e -> e.fright).sum();
            default: return found(Due.BEYOND);
        }
    }

    private int status(int which) {
        if (!in(which, -1, 6)) return found(Due.BEYOND);
        return which < 0 ? sum(told) : told[which];
    }
}
