import java.util.Arrays;

/** A parish whose ewes grow the months, are shorn of them in June, and give coats. */
public final class ShornYear {
    private static final int BEYOND = 0;
    private static final int FULL = 1;
    private static final int KIND = 2;
    private static final int NONE = 3;
    private static final int STATE = 4;
    private static final int MISSING = 5;
    private static final int SIZE = 6;
    private static final int FINDINGS = 7;
    private static final int FIRST_FINDING = -1000000001;

    private static final int YEAR = 12;
    private static final int JUNE = 5;
    private static final int LAST_MONTH = 9999;
    private static final int COLDEST = -20;
    private static final int WARMEST = 20;
    private static final int MOST_STORED = 9999;
    private static final int MOST_EWES = 8;
    private static final int MOST_FRIGHT = 99;
    private static final int COATS = 4;
    private static final int MOST_IN_COAT = 999;
    private static final int MOST_AT_ONCE = 60;
    private static final int FARTHEST = 120;
    private static final int MOST_FLEECE = 1188;
    private static final int SHEETS = 4;
    private static final int LONGEST_SHEET = 40;
    private static final int LONGEST_TAPE = 120;

    private static final int EWE = 0;
    private static final int RAM = 1;
    private static final int LAMB = 2;
    private static final int WETHER = 3;
    private static final int BLACK = 4;
    private static final int PET = 5;
    private static final int KINDS = 6;

    private final Parish here = new Parish();
    private final Parish kept = new Parish();
    // Every look AHEAD uses these two again, so that no call makes an object.
    private final Parish trial = new Parish();
    private final Ewe lone = new Ewe();
    private final Tape tape = new Tape();
    private final Sheet[] sheets = new Sheet[SHEETS];
    private final int[] told = new int[FINDINGS];
    private boolean hasImage;

    public ShornYear() {
        for (int s = 0; s < SHEETS; s++) {
            sheets[s] = new Sheet();
        }
    }

    // ---- the year

    public int weather(int month, int v) {
        if (!isMonth(month) || !isWeather(v)) {
            return found(BEYOND);
        }
        int was = here.weather[month];
        here.weather[month] = v;
        return was;
    }

    public int monthOf(int month, int what) {
        if (!isMonth(month)) {
            return found(BEYOND);
        }
        switch (what) {
            case 0:
                return 100 + here.weather[month];
            case 1:
                return here.store[month];
            case 2:
                return here.rough[month];
            default:
                return found(BEYOND);
        }
    }

    public int now(int what) {
        switch (what) {
            case 0:
                return here.month;
            case 1:
                return here.monthOfYear();
            case 2:
                return 100 + here.weather[here.monthOfYear()];
            case 3:
                return sum(here.store);
            case 4:
                return sum(here.rough);
            case 5:
                return here.woolOnAll();
            default:
                return found(BEYOND);
        }
    }

    // ---- ewes

    public int ewe(int kind) {
        if (!isKind(kind)) {
            return found(BEYOND);
        }
        if (here.isFull()) {
            return found(FULL);
        }
        here.add(kind, 0);
        return here.size - 1;
    }

    public int of(int ewe, int what) {
        if (!isEwe(ewe)) {
            return found(BEYOND);
        }
        Ewe one = here.ewes[ewe];
        switch (what) {
            case 0:
                return one.kind;
            case 1:
                return one.fright;
            case 2:
                return one.wool;
            case 3:
                return calms(one.kind);
            default:
                return found(BEYOND);
        }
    }

    public int fleece(int ewe, int month) {
        if (!isEwe(ewe) || !isMonth(month)) {
            return found(BEYOND);
        }
        return here.ewes[ewe].fleece[month];
    }

    public int can(int ewe, int what, int w) {
        if (!isEwe(ewe) || !isWeather(w)) {
            return found(BEYOND);
        }
        Ewe one = here.ewes[ewe];
        switch (what) {
            case 0:
                return grows(one.kind, w);
            case 1:
                return loses(one.kind, one.fright);
            case 2:
                return burrs(one.kind, w);
            default:
                return found(BEYOND);
        }
    }

    public int scare(int ewe, int v) {
        if (!isEwe(ewe) || !isWithin(v, 0, MOST_FRIGHT)) {
            return found(BEYOND);
        }
        int was = here.ewes[ewe].fright;
        here.ewes[ewe].fright = v;
        return was;
    }

    public int turn(int ewe, int kind) {
        if (!isEwe(ewe) || !isKind(kind)) {
            return found(BEYOND);
        }
        int was = here.ewes[ewe].kind;
        here.ewes[ewe].kind = kind;
        return was;
    }

    public int as(int ewe, int kind) {
        if (!isEwe(ewe) || !isKind(kind)) {
            return found(BEYOND);
        }
        Ewe one = here.ewes[ewe];
        return isOfKind(one.kind, kind) ? one.fright : found(KIND);
    }

    // ---- coats

    public int cut(int coat, int month, int n) {
        if (!isCoat(coat) || !isMonth(month) || !isWithin(n, 1, MOST_IN_COAT)) {
            return found(BEYOND);
        }
        if (n > here.store[month]) {
            return found(STATE);
        }
        if (n > here.roomInCoat(coat, month)) {
            return found(FULL);
        }
        here.cutFor(coat, month, n);
        return here.coats[coat][month];
    }

    public int coatOf(int coat, int what) {
        if (!isCoat(coat)) {
            return found(BEYOND);
        }
        switch (what) {
            case 0:
                return here.warmthOfCoat(coat);
            case 1:
                return here.harshnessOfCoat(coat);
            case 2:
                return sum(here.coats[coat]);
            case 3:
                return here.monthsInCoat(coat);
            default:
                return found(BEYOND);
        }
    }

    public int unpick(int coat) {
        if (!isCoat(coat)) {
            return found(BEYOND);
        }
        int had = sum(here.coats[coat]);
        here.undoCoat(coat);
        return had;
    }

    // ---- months

    public int months(int n) {
        if (!isWithin(n, 1, MOST_AT_ONCE)) {
            return found(BEYOND);
        }
        if (here.month + n > LAST_MONTH) {
            return found(STATE);
        }
        here.pass(n);
        return sum(here.store);
    }

    public int on(int ewe, int n, int what) {
        if (!isEwe(ewe) || !isWithin(n, 0, FARTHEST) || !isWithin(what, 0, 1)) {
            return found(BEYOND);
        }
        lone.become(here.ewes[ewe]);
        passAlone(n);
        return what == 0 ? lone.wool : lone.fright;
    }

    public int then(int month, int n, int what) {
        if (!isMonth(month) || !isWithin(n, 0, FARTHEST) || !isWithin(what, 0, 1)) {
            return found(BEYOND);
        }
        trial.become(here);
        trial.pass(n);
        return what == 0 ? trial.store[month] : trial.rough[month];
    }

    public int enough(int month, int v) {
        if (!isMonth(month) || !isWithin(v, 0, MOST_STORED)) {
            return found(BEYOND);
        }
        trial.become(here);
        for (int n = 0; n <= FARTHEST; n++) {
            if (trial.store[month] >= v) {
                return n;
            }
            trial.passOne();
        }
        return found(NONE);
    }

    public int calm(int ewe) {
        if (!isEwe(ewe)) {
            return found(BEYOND);
        }
        int fright = here.ewes[ewe].fright;
        int less = calms(here.ewes[ewe].kind);
        for (int n = 0; n <= FARTHEST; n++) {
            if (fright <= 0) {
                return n;
            }
            fright -= less;
        }
        return found(NONE);
    }

    // ---- what is best

    public int kind(int ewe, int n) {
        if (!isEwe(ewe) || !isWithin(n, 1, MOST_AT_ONCE)) {
            return found(BEYOND);
        }
        int best = EWE;
        int most = -1;
        for (int k = 0; k < KINDS; k++) {
            trial.become(here);
            trial.ewes[ewe].kind = k;
            trial.pass(n);
            int stored = sum(trial.store);
            if (stored > most) {
                most = stored;
                best = k;
            }
        }
        return best;
    }

    public int cold(int month, int n, int v) {
        if (!isMonth(month) || !isWithin(n, 1, MOST_AT_ONCE) || !isWithin(v, 0, MOST_STORED)) {
            return found(BEYOND);
        }
        for (int w = WARMEST; w >= COLDEST; w--) {
            trial.become(here);
            trial.weather[month] = w;
            trial.pass(n);
            if (trial.store[month] >= v) {
                return w;
            }
        }
        return found(NONE);
    }

    public int best(int coat, int n) {
        if (!isCoat(coat) || !isWithin(n, 1, MOST_IN_COAT)) {
            return found(BEYOND);
        }
        int best = -1;
        int most = -1;
        for (int m = 0; m < YEAR; m++) {
            if (n > here.store[m] || n > here.roomInCoat(coat, m)) {
                continue;
            }
            // Only this month's part of the WARMTH changes, so its gain orders the whole.
            int has = here.coats[coat][m];
            int gain = here.warmthOf(m, has + n) - here.warmthOf(m, has);
            if (gain > most) {
                most = gain;
                best = m;
            }
        }
        return best < 0 ? found(NONE) : best;
    }

    public int bears(int ewe, int n, int v) {
        if (!isEwe(ewe) || !isWithin(n, 0, MOST_AT_ONCE) || !isWithin(v, 0, MOST_FLEECE)) {
            return found(BEYOND);
        }
        for (int f = MOST_FRIGHT; f >= 0; f--) {
            lone.become(here.ewes[ewe]);
            lone.fright = f;
            passAlone(n);
            if (lone.wool >= v) {
                return f;
            }
        }
        return found(NONE);
    }

    public int milder(int n) {
        if (!isWithin(n, 1, MOST_AT_ONCE)) {
            return found(BEYOND);
        }
        int best = 0;
        int least = 0;
        for (int m = 0; m < YEAR; m++) {
            trial.become(here);
            trial.weather[m] = Math.min(WARMEST, trial.weather[m] + 5);
            trial.pass(n);
            int rough = sum(trial.rough);
            if (m == 0 || rough < least) {
                least = rough;
                best = m;
            }
        }
        return best;
    }

    public int warmest() {
        int best = 0;
        int most = -1;
        for (int c = 0; c < COATS; c++) {
            int warmth = here.warmthOfCoat(c);
            if (warmth > most) {
                most = warmth;
                best = c;
            }
        }
        return best;
    }

    // ---- the text

    public int feed(int bytes, int n) {
        if (!isWithin(n, 1, 4)) {
            return found(BEYOND);
        }
        if (tape.size + n > LONGEST_TAPE) {
            return found(FULL);
        }
        for (int i = n - 1; i >= 0; i--) {
            tape.add((byte) (bytes >> (8 * i)));
        }
        return tape.size;
    }

    public int wipe() {
        int had = tape.size;
        tape.size = 0;
        return had;
    }

    public int parish() {
        // The ITEMS come to a trial, since a FAULT behind them takes them all back.
        trial.become(here);
        int items = tape.applyTo(trial);
        if (items >= 0) {
            here.become(trial);
        }
        tape.size = 0;
        return items;
    }

    // ---- sheets

    public int sheet(int s, int bits, int n) {
        if (!isSheet(s) || !(bits == 0 || bits == 8 || bits == 16 || bits == 64)) {
            return found(BEYOND);
        }
        if (n < 0) {
            return found(SIZE);
        }
        if (n > LONGEST_SHEET) {
            return found(BEYOND);
        }
        sheets[s].lay(bits, bits == 0 ? 0 : n);
        return sheets[s].size;
    }

    public long write(int s, int i, long v) {
        if (!isSheet(s)) {
            return found(BEYOND);
        }
        Sheet on = sheets[s];
        if (on.isMissing()) {
            return found(MISSING);
        }
        if (!isWithin(i, 0, on.size - 1)) {
            return found(BEYOND);
        }
        long was = on.numbers[i];
        on.put(i, v);
        return was;
    }

    public int copy(int s, int from, int t, int to, int n) {
        if (!isSheet(s) || !isSheet(t)) {
            return found(BEYOND);
        }
        Sheet source = sheets[s];
        Sheet target = sheets[t];
        if (source.isMissing() || target.isMissing()) {
            return found(MISSING);
        }
        if (source.bits != target.bits) {
            return found(KIND);
        }
        if (!source.has(from, n) || !target.has(to, n)) {
            return found(BEYOND);
        }
        System.arraycopy(source.numbers, from, target.numbers, to, n);
        return n;
    }

    public int lays(int s) {
        if (!isSheet(s)) {
            return found(BEYOND);
        }
        Sheet on = sheets[s];
        if (on.isMissing()) {
            return found(MISSING);
        }
        int came = 0;
        for (int m = 0; m < YEAR && m < on.size; m++) {
            long v = on.numbers[m];
            if (v >= COLDEST && v <= WARMEST) {
                here.weather[m] = (int) v;
                came++;
            }
        }
        return came;
    }

    public int book(int s, int ewe) {
        if (!isSheet(s)) {
            return found(BEYOND);
        }
        Sheet on = sheets[s];
        if (on.isMissing()) {
            return found(MISSING);
        }
        if (!isEwe(ewe)) {
            return found(BEYOND);
        }
        lone.become(here.ewes[ewe]);
        for (int i = 0; i < on.size; i++) {
            on.put(i, lone.wool);
            passAloneFrom(i, 1);
        }
        return on.size;
    }

    public int read(int s, int ewe) {
        if (!isSheet(s)) {
            return found(BEYOND);
        }
        Sheet on = sheets[s];
        if (on.isMissing()) {
            return found(MISSING);
        }
        if (!isEwe(ewe)) {
            return found(BEYOND);
        }
        int pairs = 0;
        for (int k = 0; k < KINDS; k++) {
            for (int f = 0; f <= MOST_FRIGHT; f++) {
                lone.become(here.ewes[ewe]);
                lone.kind = k;
                lone.fright = f;
                if (growsAsTold(on)) {
                    pairs++;
                }
            }
        }
        return pairs;
    }

    // ---- images

    public int image() {
        kept.become(here);
        hasImage = true;
        return 1;
    }

    public int undo() {
        if (!hasImage) {
            return found(NONE);
        }
        here.become(kept);
        return here.size;
    }

    public int tear() {
        int was = hasImage ? 1 : 0;
        hasImage = false;
        return was;
    }

    public int count(int what) {
        switch (what) {
            case 0:
                return here.size;
            case 1:
                return tape.size;
            case 2:
                return here.coatsWithWool();
            case 3:
                return here.frightOfAll();
            default:
                return found(BEYOND);
        }
    }

    public int status(int which) {
        if (which == -1) {
            return sum(told);
        }
        if (!isWithin(which, 0, FINDINGS - 1)) {
            return found(BEYOND);
        }
        return told[which];
    }

    // ---- what the calls share

    private int found(int finding) {
        told[finding]++;
        return FIRST_FINDING - finding;
    }

    private static boolean isWithin(int v, int least, int most) {
        return v >= least && v <= most;
    }

    private static boolean isMonth(int month) {
        return isWithin(month, 0, YEAR - 1);
    }

    private static boolean isWeather(int w) {
        return isWithin(w, COLDEST, WARMEST);
    }

    private static boolean isKind(int kind) {
        return isWithin(kind, 0, KINDS - 1);
    }

    private static boolean isCoat(int coat) {
        return isWithin(coat, 0, COATS - 1);
    }

    private static boolean isSheet(int s) {
        return isWithin(s, 0, SHEETS - 1);
    }

    private boolean isEwe(int ewe) {
        return isWithin(ewe, 0, here.size - 1);
    }

    private static int sum(int[] row) {
        int all = 0;
        for (int v : row) {
            all += v;
        }
        return all;
    }

    private void passAlone(int n) {
        passAloneFrom(0, n);
    }

    // EWES do not touch one another's FLEECE or FRIGHT, so one AHEAD needs no parish.
    private void passAloneFrom(int ahead, int n) {
        int start = here.month + ahead;
        for (int i = 0; i < n; i++) {
            int m = (start + i) % YEAR;
            lone.grow(m, here.weather[m]);
            if (m == JUNE) {
                lone.bare();
            }
        }
    }

    // A number is held against the wool itself, not against its lowest bits.
    private boolean growsAsTold(Sheet on) {
        for (int i = 0; i < on.size; i++) {
            if (on.numbers[i] != lone.wool) {
                return false;
            }
            passAloneFrom(i, 1);
        }
        return true;
    }

    // ---- kinds

    private static int kindAbove(int kind) {
        switch (kind) {
            case RAM:
            case LAMB:
            case WETHER:
                return EWE;
            case BLACK:
                return RAM;
            case PET:
                return LAMB;
            default:
                return -1;
        }
    }

    private static boolean isOfKind(int kind, int asked) {
        int k = kind;
        for (int i = 0; i < KINDS && k >= 0; i++) {
            if (k == asked) {
                return true;
            }
            k = kindAbove(k);
        }
        return false;
    }

    private static int grows(int kind, int w) {
        int asEwe = w < 0 ? 10 + -w / 2 : 10;
        switch (kind) {
            case RAM:
                return asEwe + 4;
            case LAMB:
                return asEwe / 2;
            case WETHER:
                return 12;
            case BLACK:
                return w > 10 ? 0 : asEwe + 4;
            case PET:
                return asEwe / 2 + 6;
            default:
                return asEwe;
        }
    }

    private static int loses(int kind, int fright) {
        int asEwe = fright / 10;
        switch (kind) {
            case RAM:
                return 0;
            case LAMB:
                return 2 * asEwe;
            case BLACK:
                return 1;
            case PET:
                return Math.max(0, 2 * asEwe - 2);
            default:
                return asEwe;
        }
    }

    private static int calms(int kind) {
        switch (kind) {
            case RAM:
            case BLACK:
                return 20;
            case LAMB:
                return 5;
            case PET:
                return 15;
            default:
                return 10;
        }
    }

    private static int burrs(int kind, int w) {
        int asEwe = w < -8 ? 1 : 0;
        switch (kind) {
            case RAM:
                return asEwe + 1;
            case LAMB:
            case PET:
                return 0;
            case BLACK:
                return asEwe + 3;
            default:
                return asEwe;
        }
    }

    private static final class Ewe {
        int kind;
        int fright;
        // The sum of the FLEECE, kept beside it since looks AHEAD ask for it each month.
        int wool;
        final int[] fleece = new int[YEAR];

        void become(Ewe other) {
            kind = other.kind;
            fright = other.fright;
            wool = other.wool;
            System.arraycopy(other.fleece, 0, fleece, 0, YEAR);
        }

        void grow(int m, int w) {
            int grown = grows(kind, w);
            int left = grown - Math.min(grown, loses(kind, fright));
            wool += left - fleece[m];
            fleece[m] = left;
            fright = Math.max(0, fright - calms(kind));
        }

        void bare() {
            wool = 0;
            Arrays.fill(fleece, 0);
        }
    }

    /** All that an image keeps. */
    private static final class Parish {
        int month;
        int size;
        final int[] weather = new int[YEAR];
        final int[] store = new int[YEAR];
        final int[] rough = new int[YEAR];
        final Ewe[] ewes = new Ewe[MOST_EWES];
        final int[][] coats = new int[COATS][YEAR];

        Parish() {
            for (int m = 0; m < YEAR; m++) {
                weather[m] = 7 * m % 25 - 12;
            }
            for (int e = 0; e < MOST_EWES; e++) {
                ewes[e] = new Ewe();
            }
        }

        void become(Parish other) {
            month = other.month;
            size = other.size;
            System.arraycopy(other.weather, 0, weather, 0, YEAR);
            System.arraycopy(other.store, 0, store, 0, YEAR);
            System.arraycopy(other.rough, 0, rough, 0, YEAR);
            for (int e = 0; e < size; e++) {
                ewes[e].become(other.ewes[e]);
            }
            for (int c = 0; c < COATS; c++) {
                System.arraycopy(other.coats[c], 0, coats[c], 0, YEAR);
            }
        }

        int monthOfYear() {
            return month % YEAR;
        }

        boolean isFull() {
            return size >= MOST_EWES;
        }

        void add(int kind, int fright) {
            if (isFull()) {
                return;
            }
            // An undo may have left another ewe's wool in this place.
            ewes[size].bare();
            ewes[size].kind = kind;
            ewes[size].fright = fright;
            size++;
        }

        void pass(int n) {
            for (int i = 0; i < n; i++) {
                passOne();
            }
        }

        void passOne() {
            int m = monthOfYear();
            for (int e = 0; e < size; e++) {
                ewes[e].grow(m, weather[m]);
            }
            if (m == JUNE) {
                for (int e = 0; e < size; e++) {
                    shear(ewes[e]);
                }
            }
            month++;
        }

        void shear(Ewe one) {
            for (int m = 0; m < YEAR; m++) {
                if (one.fleece[m] > 0) {
                    store[m] = Math.min(MOST_STORED, store[m] + one.fleece[m]);
                    rough[m] = Math.min(MOST_STORED, rough[m] + burrs(one.kind, weather[m]));
                }
            }
            one.bare();
        }

        int roomInCoat(int coat, int m) {
            return MOST_IN_COAT - coats[coat][m];
        }

        void cutFor(int coat, int m, int n) {
            store[m] -= n;
            coats[coat][m] += n;
        }

        void undoCoat(int coat) {
            for (int m = 0; m < YEAR; m++) {
                store[m] = Math.min(MOST_STORED, store[m] + coats[coat][m]);
                coats[coat][m] = 0;
            }
        }

        int warmthOf(int m, int n) {
            if (weather[m] < 0) {
                return 2 * n;
            }
            return weather[m] > 10 ? n / 2 : n;
        }

        int warmthOfCoat(int coat) {
            int all = 0;
            for (int m = 0; m < YEAR; m++) {
                all += warmthOf(m, coats[coat][m]);
            }
            return all;
        }

        int harshnessOfCoat(int coat) {
            int all = 0;
            for (int m = 0; m < YEAR; m++) {
                all += coats[coat][m] * rough[m] / 100;
            }
            return all;
        }

        int monthsInCoat(int coat) {
            int set = 0;
            for (int m = 0; m < YEAR; m++) {
                if (coats[coat][m] > 0) {
                    set |= 1 << m;
                }
            }
            return set;
        }

        int coatsWithWool() {
            int some = 0;
            for (int c = 0; c < COATS; c++) {
                if (monthsInCoat(c) != 0) {
                    some++;
                }
            }
            return some;
        }

        int woolOnAll() {
            int all = 0;
            for (int e = 0; e < size; e++) {
                all += ewes[e].wool;
            }
            return all;
        }

        int frightOfAll() {
            int all = 0;
            for (int e = 0; e < size; e++) {
                all += ewes[e].fright;
            }
            return all;
        }
    }

    private static final class Sheet {
        final long[] numbers = new long[LONGEST_SHEET];
        int size;
        // 0 while the sheet is MISSING.
        int bits;

        boolean isMissing() {
            return bits == 0;
        }

        void lay(int newBits, int newSize) {
            bits = newBits;
            size = newSize;
            Arrays.fill(numbers, 0L);
        }

        // Asked by what is left behind 'from', so that no sum can wrap around.
        boolean has(int from, int n) {
            return from >= 0 && n >= 0 && from <= size && n <= size - from;
        }

        void put(int i, long v) {
            if (bits == 8) {
                numbers[i] = (byte) v;
            } else if (bits == 16) {
                numbers[i] = (short) v;
            } else {
                numbers[i] = v;
            }
        }
    }

    /** THE TAPE, and the reader of its text, which stands on one token at a time. */
    private static final class Tape {
        private static final int END = 0;
        private static final int WORD = 1;
        private static final int NUMBER = 2;
        private static final int SIGN = 3;
        private static final int STRANGE = 4;
        private static final int MOST_NUMBER = 9999;

        final byte[] bytes = new byte[LONGEST_TAPE];
        int size;
        private int token;
        private int start;
        private int end;
        private int value;

        void add(byte b) {
            if (size < LONGEST_TAPE) {
                bytes[size] = b;
                size++;
            }
        }

        /** How many ITEMS came, or -1 less the place of the FAULT. */
        int applyTo(Parish to) {
            end = 0;
            step();
            // No text has more ITEMS than bytes.
            for (int items = 1; items <= LONGEST_TAPE; items++) {
                if (!takeItem(to)) {
                    return -1 - start;
                }
                if (token == END) {
                    return items;
                }
                if (token != SIGN) {
                    return -1 - start;
                }
                step();
            }
            return -1 - start;
        }

        private void step() {
            start = end;
            while (start < size && bytes[start] == ' ') {
                start++;
            }
            end = start;
            if (start >= size) {
                token = END;
            } else if (isLetter(bytes[start])) {
                token = WORD;
                while (end < size && isLetter(bytes[end])) {
                    end++;
                }
            } else if (isDigit(bytes[start])) {
                token = NUMBER;
                value = 0;
                while (end < size && isDigit(bytes[end])) {
                    // Held just above the greatest NUMBER, so that many digits can't wrap around.
                    value = Math.min(MOST_NUMBER + 1, 10 * value + bytes[end] - '0');
                    end++;
                }
            } else {
                token = bytes[start] == ';' ? SIGN : STRANGE;
                end++;
            }
        }

        private static boolean isLetter(byte b) {
            return b >= 'a' && b <= 'z';
        }

        private static boolean isDigit(byte b) {
            return b >= '0' && b <= '9';
        }

        private boolean isWord(String word) {
            if (token != WORD || end - start != word.length()) {
                return false;
            }
            for (int i = 0; i < word.length(); i++) {
                if (bytes[start + i] != word.charAt(i)) {
                    return false;
                }
            }
            return true;
        }

        private int kindNamed() {
            for (int k = 0; k < KINDS; k++) {
                if (isWord(nameOfKind(k))) {
                    return k;
                }
            }
            return -1;
        }

        private static String nameOfKind(int kind) {
            switch (kind) {
                case RAM:
                    return "ram";
                case LAMB:
                    return "lamb";
                case WETHER:
                    return "wether";
                case BLACK:
                    return "black";
                case PET:
                    return "pet";
                default:
                    return "ewe";
            }
        }

        /** The NUMBER that stands here, or -1, still standing on it, if it may not be. */
        private int takeNumber(int most) {
            if (token != NUMBER || value > most) {
                return -1;
            }
            int taken = value;
            step();
            return taken;
        }

        /** False if the token that it then stands on is the FAULT. */
        private boolean takeItem(Parish to) {
            int named = kindNamed();
            if (named >= 0) {
                return takeEwe(to, named);
            }
            if (isWord("cold")) {
                return takeWeather(to, -1);
            }
            if (isWord("mild")) {
                return takeWeather(to, 1);
            }
            if (isWord("cut")) {
                return takeCut(to);
            }
            return isWord("store") && takeStore(to);
        }

        private boolean takeEwe(Parish to, int named) {
            if (to.isFull()) {
                return false;
            }
            step();
            int fright = 0;
            if (isWord("fright")) {
                step();
                fright = takeNumber(MOST_FRIGHT);
            }
            if (fright < 0) {
                return false;
            }
            to.add(named, fright);
            return true;
        }

        private boolean takeWeather(Parish to, int sign) {
            step();
            int m = takeNumber(YEAR - 1);
            if (m < 0) {
                return false;
            }
            int degrees = takeNumber(WARMEST);
            if (degrees < 0) {
                return false;
            }
            to.weather[m] = sign * degrees;
            return true;
        }

        private boolean takeCut(Parish to) {
            step();
            int coat = takeNumber(COATS - 1);
            if (coat < 0) {
                return false;
            }
            int m = takeNumber(YEAR - 1);
            if (m < 0) {
                return false;
            }
            int n = takeNumber(Math.min(to.store[m], to.roomInCoat(coat, m)));
            if (n < 0) {
                return false;
            }
            to.cutFor(coat, m, n);
            return true;
        }

        private boolean takeStore(Parish to) {
            step();
            int m = takeNumber(YEAR - 1);
            if (m < 0) {
                return false;
            }
            int n = takeNumber(MOST_STORED);
            if (n < 0) {
                return false;
            }
            to.store[m] = n;
            return true;
        }
    }
}
