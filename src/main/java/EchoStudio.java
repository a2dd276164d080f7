import java.util.Arrays;

/** A studio of echoes: loops under moving heads, boxes on a desk, and players that follow a score. */
public final class EchoStudio {
    public static final int NONE = -1;

    private static final int LOOPS = 12;
    private static final int HEADS = 10;
    private static final int DIALS = 10;
    private static final int SLOTS = 12;
    private static final int KINDS = 16;
    private static final int SCENES = 4;
    private static final int GREATEST_INT = 2147483647;

    private static final int SINGLES = 0;
    private static final int DOUBLES = 1;

    private static final int MISSING = 1;
    private static final int OFF = 2;
    private static final int SIZE = 3;
    private static final int ROOM = 4;
    private static final int ZERO = 5;
    private static final int FULL = 6;
    private static final int DEEP = 7;
    private static final int NO_SUCH = 8;
    private static final int ANY = 9;

    // The words of the score: the constants below are their places, the five rows one behind the other.
    private static final String DECK_WORDS = "loop drum drop head set put glide copy turn scene recall ";
    private static final String DESK_WORDS = "plug pull burst ";
    private static final String LEADING_WORDS = "wait do start stop if while try on else end part ";
    private static final String SUM_WORDS = "dial cell place length sum loud abs whole least most now hurt ";
    private static final String REFUSAL_WORDS = "missing off size room zero full deep none any ";
    private static final int WORDS_IN_ALL = 46;
    private static final int LOOP = 0;
    private static final int DRUM = 1;
    private static final int DROP = 2;
    private static final int HEAD = 3;
    private static final int SET = 4;
    private static final int PUT = 5;
    private static final int GLIDE = 6;
    private static final int COPY = 7;
    private static final int TURN = 8;
    private static final int SCENE = 9;
    private static final int RECALL = 10;
    private static final int PLUG = 11;
    private static final int PULL = 12;
    private static final int BURST = 13;
    private static final int WAIT = 14;
    private static final int DO = 15;
    private static final int START = 16;
    private static final int STOP = 17;
    private static final int IF = 18;
    private static final int WHILE = 19;
    private static final int TRY = 20;
    private static final int ON = 21;
    private static final int ELSE = 22;
    private static final int END = 23;
    private static final int PART = 24;
    private static final int DIAL = 25;
    private static final int CELL = 26;
    private static final int PLACE = 27;
    private static final int LENGTH = 28;
    private static final int SUM = 29;
    private static final int LOUD = 30;
    private static final int ABS = 31;
    private static final int WHOLE = 32;
    private static final int LEAST = 33;
    private static final int MOST = 34;
    private static final int NOW = 35;
    private static final int HURT = 36;
    private static final int FIRST_REFUSAL_WORD = 37;

    // What stands in a worked-out row beside the words DIAL to HURT.
    private static final int NUMBER = 50;
    private static final int NEGATE = 51;
    private static final int ADD = 52;
    private static final int SUBTRACT = 53;
    private static final int MULTIPLY = 54;
    private static final int DIVIDE = 55;
    private static final int LESS = 56;
    private static final int MORE = 57;
    private static final int SAME = 58;
    private static final int OVER = 59;

    // Steps of a score that are no LINES: the way out of a block, back to a while, behind a PART's last LINE.
    private static final int LEAVE = 60;
    private static final int AGAIN = 61;
    private static final int RETURN = 62;

    private static final int TAPE_MOST = 4000;
    private static final int FED_AT_ONCE = 20;
    private static final int TICKS_MOST = 500;

    private final byte[] tape;
    private int taped;
    private final Ledger ledger;
    private final Deck deck;
    private final Acts acts;
    private final Reader reader;
    private final Stage stage;
    private final Box loose;

    public EchoStudio() {
        tape = new byte[TAPE_MOST];
        taped = 0;
        ledger = new Ledger();
        deck = new Deck();
        acts = new Acts(deck, ledger);
        reader = new Reader();
        stage = new Stage(deck, acts, ledger);
        loose = new Box();
    }

    public int feed(int a, int b, int c, int d, int e) {
        if (taped + FED_AT_ONCE > TAPE_MOST) {
            return NONE;
        }
        append(a);
        append(b);
        append(c);
        append(d);
        append(e);
        return taped;
    }

    private void append(int four) {
        for (int shift = 24; shift >= 0; shift -= 8) {
            tape[taped] = (byte) (four >>> shift);
            taped++;
        }
    }

    public int back(int n) {
        if (n < 0 || n > taped) {
            return NONE;
        }
        taped -= n;
        return taped;
    }

    public int read() {
        int fault = reader.fill(stage.spare, tape, taped);
        taped = 0;
        if (fault == 0) {
            stage.changeScore();
        }
        return fault;
    }

    public int play(int k) {
        if (ledger.worn() || !stage.begin(k)) {
            return NONE;
        }
        return stage.here;
    }

    public int run(int n) {
        if (n < 0 || n > TICKS_MOST) {
            return NONE;
        }
        for (int ticks = 1; ticks <= n; ticks++) {
            if (stage.tick()) {
                return ticks;
            }
        }
        return n;
    }

    public int act(int kind, int p, int q, int r, int g) {
        loose.kind = kind;
        loose.p = p;
        loose.q = q;
        loose.r = r;
        loose.g = g;
        if (!loose.stands() || ledger.worn()) {
            return NONE;
        }
        int refusal = acts.repeat(loose, 1);
        if (refusal != 0) {
            ledger.actRefused(stage.now, refusal, NONE);
        }
        return refusal;
    }

    public int loop(int n, int what) {
        if (!deck.hasLoop(n)) {
            return NONE;
        }
        return what == 0 ? deck.sort[n] : what == 1 ? deck.cells[n].length : NONE;
    }

    public long cell(int n, int i) {
        if (!deck.hasLoop(n) || i < 0 || i >= deck.cells[n].length) {
            return 0;
        }
        return deck.cells[n][i];
    }

    public int head(int h, int what) {
        if (h < 0 || h >= HEADS) {
            return 0;
        }
        return what == 0 ? deck.over[h] : what == 1 ? deck.place[h] : 0;
    }

    public long dial(int g) {
        return g < 0 || g >= DIALS ? 0 : deck.dials[g];
    }

    public int slot(int s, int what) {
        if (s < 0 || s >= SLOTS || stage.boxes[s].empty()) {
            return NONE;
        }
        return stage.boxes[s].tell(what);
    }

    public int player(int i, int what) {
        if (i < 0 || i >= stage.here) {
            return NONE;
        }
        return stage.players[i].tell(what);
    }

    public int count(int what) {
        switch (what) {
            case 0: return stage.now;
            case 1: return stage.score.parts;
            case 2: return stage.here;
            case 3: return ledger.lines;
            case 4: return ledger.acts;
            case 5: return ledger.actRefusals;
            case 6: return ledger.lineRefusals;
            case 7: return ledger.taken;
            case 8: return ledger.fallen;
            case 9: return ledger.latestKind();
            case 10: return deck.loopsMade;
            case 11: return deck.cellsMade;
            case 12: return deck.gliding();
            default: return NONE;
        }
    }

    public int met(int i, int what) {
        return ledger.tell(i, what);
    }

    public long peak(int n) {
        return deck.hasLoop(n) ? deck.loudest(n) : 0;
    }

    /** DOUBLES as their bits, reckoned in whole numbers: so a NaN is one value of many, and the machine makes none. */
    private static final class Reals {
        static final long TWO = 0x4000000000000000L;
        static final long FOUR = 0x4010000000000000L;
        static final long HALF = 0x3FE0000000000000L;
        private static final long SIGN = 0x8000000000000000L;
        private static final long WITHOUT_SIGN = 0x7FFFFFFFFFFFFFFFL;
        private static final long INFINITE = 0x7FF0000000000000L;
        private static final long NAN = 0x7FF8000000000000L;
        private static final long FRACTION = 0x000FFFFFFFFFFFFFL;
        private static final long HIDDEN = 0x0010000000000000L;
        private static final int SINGLE_INFINITE = 0x7F800000;
        private static final int SINGLE_NAN = 0x7FC00000;
        private static final int SINGLE_HIDDEN = 0x00800000;

        static boolean isNaN(long a) {
            return (a & WITHOUT_SIGN) > INFINITE;
        }

        static boolean isZero(long a) {
            return (a & WITHOUT_SIGN) == 0;
        }

        static long size(long a) {
            return a & WITHOUT_SIGN;
        }

        static long negated(long a) {
            return isNaN(a) ? a : a ^ SIGN;
        }

        static long add(long a, long b) {
            long x = a & WITHOUT_SIGN;
            long y = b & WITHOUT_SIGN;
            if (x > INFINITE || y > INFINITE) {
                return NAN;
            }
            if (x == INFINITE || y == INFINITE) {
                return x == y && a != b ? NAN : x == INFINITE ? a : b;
            }
            if (x == 0 && y == 0) {
                return a & b;
            }
            long big = x >= y ? a : b;
            long small = x >= y ? b : a;
            int e = exponent(big);
            long m = mantissa(big) << 3;
            long n = shrunk(mantissa(small) << 3, e - exponent(small));
            long both = (a ^ b) < 0 ? m - n : m + n;
            return both == 0 ? 0 : rounded(big & SIGN, e, both);
        }

        static long subtract(long a, long b) {
            return isNaN(b) ? NAN : add(a, b ^ SIGN);
        }

        static long multiply(long a, long b) {
            long sign = (a ^ b) & SIGN;
            long x = a & WITHOUT_SIGN;
            long y = b & WITHOUT_SIGN;
            if (x > INFINITE || y > INFINITE) {
                return NAN;
            }
            if (x == INFINITE || y == INFINITE) {
                return x == 0 || y == 0 ? NAN : sign | INFINITE;
            }
            if (x == 0 || y == 0) {
                return sign;
            }
            int lowX = lacking(x);
            int lowY = lacking(y);
            long m = mantissa(x) << lowX;
            long n = mantissa(y) << lowY;
            int e = exponent(x) - lowX + exponent(y) - lowY - 1023;
            // The product has 106 bits: it is made of halves of 27, and its last ones are kept as one sticky bit.
            long half = (1L << 27) - 1;
            long middle = (m >>> 27) * (n & half) + (m & half) * (n >>> 27);
            long low = ((middle & half) << 27) + (m & half) * (n & half);
            long high = (m >>> 27) * (n >>> 27) + (middle >>> 27) + (low >>> 54);
            low &= (1L << 54) - 1;
            long sticky = (low & (1L << 49) - 1) == 0 ? 0 : 1;
            return rounded(sign, e, high << 5 | low >>> 49 | sticky);
        }

        static long divide(long a, long b) {
            long sign = (a ^ b) & SIGN;
            long x = a & WITHOUT_SIGN;
            long y = b & WITHOUT_SIGN;
            if (x > INFINITE || y > INFINITE || x == y && (x == 0 || x == INFINITE)) {
                return NAN;
            }
            if (x == INFINITE || y == 0) {
                return sign | INFINITE;
            }
            if (x == 0 || y == INFINITE) {
                return sign;
            }
            int lowX = lacking(x);
            int lowY = lacking(y);
            long rest = mantissa(x) << lowX;
            long by = mantissa(y) << lowY;
            int e = exponent(x) - lowX - exponent(y) + lowY + 1023;
            long quotient = 0;
            for (int bit = 0; bit < 57; bit++) {
                quotient <<= 1;
                if (rest >= by) {
                    rest -= by;
                    quotient |= 1;
                }
                rest <<= 1;
            }
            return rounded(sign, e - 1, rest == 0 ? quotient : quotient | 1);
        }

        static boolean less(long a, long b) {
            return !isNaN(a) && !isNaN(b) && rank(a) < rank(b);
        }

        static boolean same(long a, long b) {
            return !isNaN(a) && !isNaN(b) && rank(a) == rank(b);
        }

        static long least(long a, long b) {
            if (isNaN(a) || isNaN(b)) {
                return NAN;
            }
            // Of the same rank they differ only as zeros do, in the sign.
            return rank(a) == rank(b) ? a | b : rank(a) < rank(b) ? a : b;
        }

        static long most(long a, long b) {
            if (isNaN(a) || isNaN(b)) {
                return NAN;
            }
            return rank(a) == rank(b) ? a & b : rank(a) < rank(b) ? b : a;
        }

        static int whole(long a) {
            int e = exponent(a) - 1023;
            if (e < 0 || isNaN(a)) {
                return 0;
            }
            if (e >= 31) {
                return a < 0 ? -GREATEST_INT - 1 : GREATEST_INT;
            }
            int cut = (int) (mantissa(a) >>> 52 - e);
            return a < 0 ? -cut : cut;
        }

        /** The DOUBLE of a whole number of at most 53 bits. */
        static long ofWhole(long n) {
            return n == 0 ? 0 : rounded(n & SIGN, 1078, n < 0 ? -n : n);
        }

        static long ofSingle(int s) {
            long sign = s < 0 ? SIGN : 0;
            int x = s & 0x7FFFFFFF;
            if (x > SINGLE_INFINITE) {
                return NAN;
            }
            if (x == SINGLE_INFINITE || x == 0) {
                return x == 0 ? sign : sign | INFINITE;
            }
            int e = x >>> 23;
            long m = x & SINGLE_HIDDEN - 1;
            if (e == 0) {
                e = 1;
                while (m < SINGLE_HIDDEN && e > -23) {
                    m <<= 1;
                    e--;
                }
                m -= SINGLE_HIDDEN;
            }
            return sign | (long) (e + 896) << 52 | m << 29;
        }

        static int toSingle(long a) {
            int sign = a < 0 ? 0x80000000 : 0;
            long x = a & WITHOUT_SIGN;
            if (x > INFINITE) {
                return SINGLE_NAN;
            }
            int e = (int) (x >>> 52) - 896;
            if (e > 254) {
                return sign | SINGLE_INFINITE;
            }
            if (e < -24) {
                return sign;
            }
            int lost = e < 1 ? 30 - e : 29;
            long m = x & FRACTION | HIDDEN;
            long kept = m >>> lost;
            long rest = m & (1L << lost) - 1;
            long half = 1L << lost - 1;
            if (rest > half || rest == half && (kept & 1) == 1) {
                kept++;
            }
            // A carry out of the fraction makes the exponent one more, up to the infinite.
            return sign | (e < 1 ? 0 : e - 1 << 23) + (int) kept;
        }

        private static long rank(long a) {
            return a < 0 ? -(a & WITHOUT_SIGN) : a;
        }

        private static int exponent(long a) {
            int e = (int) ((a & WITHOUT_SIGN) >>> 52);
            return e == 0 ? 1 : e;
        }

        private static long mantissa(long a) {
            return (a & INFINITE) == 0 ? a & FRACTION : a & FRACTION | HIDDEN;
        }

        /** By how many bits the mantissa of a small number is short of a full one. */
        private static int lacking(long a) {
            int bits = 0;
            long m = (a & INFINITE) == 0 ? a & FRACTION : HIDDEN;
            while (m < HIDDEN && bits < 52) {
                m <<= 1;
                bits++;
            }
            return bits;
        }

        private static long shrunk(long m, int by) {
            if (by > 60) {
                return m == 0 ? 0 : 1;
            }
            return m >>> by | ((m & (1L << by) - 1) == 0 ? 0 : 1);
        }

        /** The nearest DOUBLE to m * 2 ** (exponent - 1078), where m is above 0 and its last bit may be sticky. */
        private static long rounded(long sign, int exponent, long m) {
            int e = exponent;
            long n = m;
            while (n >= 1L << 56) {
                n = n >>> 1 | n & 1;
                e++;
            }
            while (n < 1L << 47 && e > 8) {
                n <<= 8;
                e -= 8;
            }
            while (n < 1L << 55 && e > 1) {
                n <<= 1;
                e--;
            }
            if (e < 1) {
                int by = 1 - e;
                n = by > 60 ? 1 : n >>> by | ((n & (1L << by) - 1) == 0 ? 0 : 1);
                e = 1;
            }
            if (e > 2046) {
                return sign | INFINITE;
            }
            long extra = n & 7;
            n >>>= 3;
            if (extra > 4 || extra == 4 && (n & 1) == 1) {
                n++;
            }
            // A carry out of the fraction makes the exponent one more, up to the infinite.
            return sign | ((long) (e - 1) << 52) + n;
        }
    }

    /** What was counted, and the latest refusals. */
    private static final class Ledger {
        private static final int KEPT = 30;
        private static final int WORN_AT = 2500;

        private final int[] when = new int[KEPT];
        private final int[] kind = new int[KEPT];
        private final int[] where = new int[KEPT];
        private int lines;
        private int acts;
        private int actRefusals;
        private int lineRefusals;
        private int taken;
        private int fallen;

        boolean worn() {
            return actRefusals + lineRefusals >= WORN_AT;
        }

        void actRefused(int now, int refusal, int place) {
            keep(now, refusal, place);
            actRefusals++;
        }

        void lineRefused(int now, int refusal, int place) {
            keep(now, refusal, place);
            lineRefusals++;
        }

        private void keep(int now, int refusal, int place) {
            int i = (actRefusals + lineRefusals) % KEPT;
            when[i] = now;
            kind[i] = refusal;
            where[i] = place;
        }

        int latestKind() {
            return actRefusals + lineRefusals == 0 ? 0 : tell(0, 1);
        }

        int tell(int i, int what) {
            int refusals = actRefusals + lineRefusals;
            if (i < 0 || i >= KEPT || i >= refusals) {
                return NONE;
            }
            int at = (refusals - 1 - i) % KEPT;
            switch (what) {
                case 0: return when[at];
                case 1: return kind[at];
                case 2: return where[at];
                default: return NONE;
            }
        }
    }

    /** The LOOPS, HEADS and DIALS, and the LINES that change them. */
    private static final class Deck {
        private static final int LENGTH_MOST = 300;
        private static final int LOOPS_MADE_MOST = 60;
        private static final int CELLS_MADE_MOST = 6000;

        /** NONE where no LOOP is. */
        private final int[] sort = new int[LOOPS];
        private final long[][] cells = new long[LOOPS][0];
        private final int[] over = new int[HEADS];
        private final int[] place = new int[HEADS];
        private final long[] dials = new long[DIALS];
        private final long[] step = new long[DIALS];
        private final long[] goal = new long[DIALS];
        private final int[] ticksLeft = new int[DIALS];
        private final boolean[] kept = new boolean[SCENES];
        private final int[] keptOver = new int[SCENES * HEADS];
        private final int[] keptPlace = new int[SCENES * HEADS];
        private final long[] keptDials = new long[SCENES * DIALS];
        private int loopsMade;
        private int cellsMade;

        Deck() {
            Arrays.fill(sort, NONE);
        }

        boolean hasLoop(int n) {
            return n >= 0 && n < LOOPS && sort[n] != NONE;
        }

        /** A CELL that is there, as a DOUBLE. */
        long valueAt(int n, int i) {
            long bits = cells[n][i];
            return sort[n] == DOUBLES ? bits : Reals.ofSingle((int) bits);
        }

        /** Sets a CELL that is there. */
        void setAt(int n, int i, long value) {
            cells[n][i] = sort[n] == DOUBLES ? value : Reals.toSingle(value);
        }

        /** The refusal, or 0, that the CELL under a HEAD meets, of whatever sort it is. */
        int refusalUnder(int h) {
            int n = over[h];
            if (!hasLoop(n)) {
                return MISSING;
            }
            return place[h] < 0 || place[h] >= cells[n].length ? OFF : 0;
        }

        long loudest(int n) {
            long most = 0;
            for (int i = 0; i < cells[n].length; i++) {
                most = Reals.most(most, Reals.size(valueAt(n, i)));
            }
            return most;
        }

        long total(int n) {
            long total = 0;
            for (int i = 0; i < cells[n].length; i++) {
                total = Reals.add(total, valueAt(n, i));
            }
            return total;
        }

        void setDial(int g, long value) {
            dials[g] = value;
            ticksLeft[g] = 0;
        }

        void glideOn() {
            for (int g = 0; g < DIALS; g++) {
                if (ticksLeft[g] > 0) {
                    ticksLeft[g]--;
                    dials[g] = ticksLeft[g] == 0 ? goal[g] : Reals.add(dials[g], step[g]);
                }
            }
        }

        int gliding() {
            int found = 0;
            for (int g = 0; g < DIALS; g++) {
                if (ticksLeft[g] > 0) {
                    found++;
                }
            }
            return found;
        }

        /** Does a LINE from LOOP to RECALL with its E's: its refusal, or 0. */
        int obey(int word, long[] e) {
            int n = Reals.whole(e[0]);
            if (n < 0 || n >= things(word)) {
                return NO_SUCH;
            }
            switch (word) {
                case LOOP: return makeAnew(n, SINGLES, Reals.whole(e[1]));
                case DRUM: return makeAnew(n, DOUBLES, Reals.whole(e[1]));
                case DROP:
                    sort[n] = NONE;
                    return 0;
                case HEAD: return putOver(n, Reals.whole(e[1]), Reals.whole(e[2]));
                case SET:
                    setDial(n, e[1]);
                    return 0;
                case PUT: return putUnder(n, e[1]);
                case GLIDE:
                    beginGlide(n, e[1], Reals.whole(e[2]));
                    return 0;
                case COPY: return copyFrom(n, Reals.whole(e[1]));
                case TURN: return turnOver(n);
                case SCENE:
                    keepScene(n);
                    return 0;
                default: return recallScene(n);
            }
        }

        private static int things(int word) {
            switch (word) {
                case HEAD:
                case PUT: return HEADS;
                case SET:
                case GLIDE: return DIALS;
                case SCENE:
                case RECALL: return SCENES;
                default: return LOOPS;
            }
        }

        private int makeAnew(int n, int newSort, int length) {
            if (length < 0) {
                return SIZE;
            }
            if (noRoomFor(length)) {
                return ROOM;
            }
            make(n, newSort, length);
            return 0;
        }

        private boolean noRoomFor(int length) {
            return length > LENGTH_MOST || loopsMade >= LOOPS_MADE_MOST || cellsMade + length > CELLS_MADE_MOST;
        }

        private void make(int n, int newSort, int length) {
            sort[n] = newSort;
            cells[n] = new long[length];
            loopsMade++;
            cellsMade += length;
        }

        private int putOver(int h, int n, int at) {
            if (n < 0 || n >= LOOPS) {
                return NO_SUCH;
            }
            over[h] = n;
            place[h] = at;
            return 0;
        }

        private int putUnder(int h, long value) {
            int refusal = refusalUnder(h);
            if (refusal == 0) {
                setAt(over[h], place[h], value);
                place[h]++;
            }
            return refusal;
        }

        private void beginGlide(int g, long to, int ticks) {
            if (ticks < 1) {
                setDial(g, to);
                return;
            }
            step[g] = Reals.divide(Reals.subtract(to, dials[g]), Reals.ofWhole(ticks));
            goal[g] = to;
            ticksLeft[g] = ticks;
        }

        private int copyFrom(int n, int m) {
            if (m < 0 || m >= LOOPS) {
                return NO_SUCH;
            }
            if (!hasLoop(m)) {
                return MISSING;
            }
            long[] from = cells[m];
            if (noRoomFor(from.length)) {
                return ROOM;
            }
            make(n, sort[m], from.length);
            System.arraycopy(from, 0, cells[n], 0, from.length);
            return 0;
        }

        private int turnOver(int n) {
            if (!hasLoop(n)) {
                return MISSING;
            }
            long[] from = cells[n];
            if (noRoomFor(from.length)) {
                return ROOM;
            }
            make(n, sort[n] == SINGLES ? DOUBLES : SINGLES, from.length);
            for (int i = 0; i < from.length; i++) {
                cells[n][i] = sort[n] == DOUBLES ? Reals.ofSingle((int) from[i]) : Reals.toSingle(from[i]);
            }
            return 0;
        }

        private void keepScene(int n) {
            kept[n] = true;
            System.arraycopy(over, 0, keptOver, n * HEADS, HEADS);
            System.arraycopy(place, 0, keptPlace, n * HEADS, HEADS);
            System.arraycopy(dials, 0, keptDials, n * DIALS, DIALS);
        }

        private int recallScene(int n) {
            if (!kept[n]) {
                return MISSING;
            }
            System.arraycopy(keptOver, n * HEADS, over, 0, HEADS);
            System.arraycopy(keptPlace, n * HEADS, place, 0, HEADS);
            System.arraycopy(keptDials, n * DIALS, dials, 0, DIALS);
            Arrays.fill(ticksLeft, 0);
            return 0;
        }
    }

    /** A box: of a SLOT, or of one ACT alone. */
    private static final class Box {
        private static final int EVERY_MOST = 60;
        private static final int PLAIN_ANSWERS = 6;
        private static final int FIRST_PART_ANSWER = 100;
        private static final int LAST_PART_ANSWER = 129;

        /** How many of p, q, r each KIND tells: always the first ones. */
        private static final int[] HEADS_TOLD = {2, 2, 2, 1, 3, 3, 3, 3, 3, 1, 2, 2, 3, 1, 2, 2};

        private int kind = NONE;
        private int p;
        private int q;
        private int r;
        private int g;
        private int every;
        private int answer;
        private int refused;

        boolean empty() {
            return kind == NONE;
        }

        boolean stands() {
            return kind >= 0 && kind < KINDS && isHead(p) && isHead(q) && isHead(r) && g >= 0 && g < DIALS;
        }

        private static boolean isHead(int h) {
            return h >= 0 && h < HEADS;
        }

        boolean answers() {
            return every >= 1 && every <= EVERY_MOST && (answer >= 0 && answer < PLAIN_ANSWERS
                    || answer >= FIRST_PART_ANSWER && answer <= LAST_PART_ANSWER);
        }

        /** Takes KIND, HEADS and DIAL from the E's, the first of them at from. */
        void fill(long[] e, int from) {
            kind = Reals.whole(e[from]);
            p = Reals.whole(e[from + 1]);
            q = Reals.whole(e[from + 2]);
            r = Reals.whole(e[from + 3]);
            g = Reals.whole(e[from + 4]);
        }

        void copyFrom(Box other) {
            kind = other.kind;
            p = other.p;
            q = other.q;
            r = other.r;
            g = other.g;
            every = other.every;
            answer = other.answer;
            refused = 0;
        }

        int headsTold() {
            return kind >= 0 && kind < KINDS ? HEADS_TOLD[kind] : 0;
        }

        int headAt(int i) {
            return i == 0 ? p : i == 1 ? q : r;
        }

        int tell(int what) {
            switch (what) {
                case 0: return kind;
                case 1: return p;
                case 2: return q;
                case 3: return r;
                case 4: return g;
                case 5: return every;
                case 6: return answer;
                case 7: return refused;
                default: return NONE;
            }
        }
    }

    /**
     * The ACTS of the KINDS. Behind a refusal take, told and set do nothing,
     * so each KIND is written as one straight chain that may break off anywhere.
     */
    private static final class Acts {
        // The KINDS; GRAIN (7) and PICK (15) are what is left of each eight.
        private static final int TAPE = 0;
        private static final int LIFT = 1;
        private static final int MIX = 2;
        private static final int FADE = 3;
        private static final int BOUNCE = 4;
        private static final int LADDER = 5;
        private static final int ECHO = 6;
        private static final int SCATTER = 8;
        private static final int STAMMER = 9;
        private static final int SMOOTH = 10;
        private static final int SWELL = 11;
        private static final int CHASE = 12;
        private static final int RING = 13;
        private static final int HALVE = 14;

        // How a HEAD moves as its CELL is taken.
        private static final int STAY = 0;
        private static final int THEN_ON = 1;
        private static final int THEN_BACK = 2;
        private static final int FIRST_ON = 3;
        private static final int FIRST_BACK = 4;
        private static final int TAKEN_MOST = 4;

        private final Deck deck;
        private final Ledger ledger;
        private final int[] takenSort = new int[TAKEN_MOST];
        private final int[] takenLoop = new int[TAKEN_MOST];
        private final int[] takenPlace = new int[TAKEN_MOST];
        private int taken;
        private int refusal;

        Acts(Deck deck, Ledger ledger) {
            this.deck = deck;
            this.ledger = ledger;
        }

        /** Does the ACT of a box that stands so many times, or till one is refused: that refusal, or 0. */
        int repeat(Box box, int times) {
            refusal = 0;
            for (int i = 0; i < times && refusal == 0; i++) {
                taken = 0;
                ledger.acts++;
                if (box.kind < SCATTER) {
                    doTapeToGrain(box.kind, box.p, box.q, box.r, box.g);
                } else {
                    doScatterToPick(box.kind, box.p, box.q, box.r, box.g);
                }
            }
            return refusal;
        }

        private void doTapeToGrain(int kind, int p, int q, int r, int g) {
            long dial = deck.dials[g];
            int left;
            long value;
            switch (kind) {
                case TAPE:
                    left = take(SINGLES, p, THEN_ON);
                    set(left, told(take(DOUBLES, q, THEN_ON)));
                    break;
                case LIFT:
                    left = take(DOUBLES, p, THEN_BACK);
                    set(left, told(take(SINGLES, q, THEN_ON)));
                    break;
                case MIX:
                    left = take(DOUBLES, p, STAY);
                    value = told(left);
                    set(left, Reals.add(value, Reals.multiply(told(take(SINGLES, q, THEN_ON)), dial)));
                    break;
                case FADE:
                    left = take(SINGLES, p, THEN_ON);
                    set(left, Reals.multiply(told(left), dial));
                    break;
                case BOUNCE:
                    left = take(SINGLES, p, THEN_ON);
                    set(left, set(take(SINGLES, q, THEN_BACK), told(take(DOUBLES, r, THEN_ON))));
                    break;
                case LADDER:
                    left = take(DOUBLES, p, THEN_ON);
                    set(left, set(take(DOUBLES, q, THEN_ON), Reals.multiply(told(take(DOUBLES, r, THEN_ON)), dial)));
                    break;
                case ECHO:
                    left = take(DOUBLES, p, THEN_ON);
                    value = told(take(DOUBLES, q, THEN_ON));
                    set(left, Reals.add(value, Reals.multiply(told(take(DOUBLES, r, THEN_BACK)), dial)));
                    break;
                default:
                    left = take(SINGLES, p, THEN_ON);
                    value = told(take(DOUBLES, r, THEN_ON));
                    set(left, told(takeAt(SINGLES, q, Reals.whole(value))));
                    break;
            }
        }

        private void doScatterToPick(int kind, int p, int q, int r, int g) {
            long dial = deck.dials[g];
            int left;
            long value;
            switch (kind) {
                case SCATTER:
                    left = takeAt(DOUBLES, q, Reals.whole(told(take(SINGLES, r, THEN_ON))));
                    set(left, Reals.multiply(told(take(SINGLES, p, THEN_ON)), dial));
                    break;
                case STAMMER:
                    // In DOUBLES, then brought to a SINGLE: that is what SINGLES alone would come to.
                    left = take(SINGLES, p, STAY);
                    value = told(take(SINGLES, p, FIRST_ON));
                    set(left, Reals.subtract(value, told(take(SINGLES, p, THEN_BACK))));
                    break;
                case SMOOTH:
                    left = take(DOUBLES, p, THEN_ON);
                    value = told(takeAt(DOUBLES, q, deck.place[q] - 1));
                    value = Reals.add(value, Reals.multiply(told(take(DOUBLES, q, STAY)), Reals.TWO));
                    value = Reals.add(value, told(take(DOUBLES, q, FIRST_ON)));
                    set(left, Reals.divide(value, Reals.FOUR));
                    break;
                case SWELL:
                    value = told(take(SINGLES, p, THEN_ON));
                    value = Reals.multiply(value, told(take(DOUBLES, q, THEN_ON)));
                    deck.dials[g] = refusal == 0 ? Reals.add(dial, value) : dial;
                    break;
                case CHASE:
                    left = take(DOUBLES, p, THEN_ON);
                    value = told(left);
                    int next = take(SINGLES, q, THEN_ON);
                    long nextValue = told(next);
                    nextValue = Reals.subtract(nextValue, told(take(DOUBLES, r, THEN_ON)));
                    set(left, Reals.subtract(value, set(next, nextValue)));
                    break;
                case RING:
                    left = take(DOUBLES, p, FIRST_ON);
                    value = told(left);
                    set(left, Reals.multiply(value, told(take(DOUBLES, p, FIRST_BACK))));
                    break;
                case HALVE:
                    left = take(SINGLES, p, THEN_ON);
                    value = told(left);
                    set(left, Reals.divide(value, told(take(DOUBLES, q, THEN_ON))));
                    break;
                default:
                    left = takeAt(DOUBLES, p, Reals.whole(told(take(SINGLES, q, THEN_BACK))));
                    set(left, Reals.add(told(left), dial));
                    break;
            }
        }

        /** Takes the CELL under a HEAD, which moves as told: by what number told and set know it. */
        private int take(int sort, int h, int move) {
            if (refusal != 0) {
                return 0;
            }
            if (move == FIRST_ON || move == FIRST_BACK) {
                deck.place[h] += move == FIRST_ON ? 1 : -1;
            }
            int cell = takeAt(sort, h, deck.place[h]);
            if (move == THEN_ON || move == THEN_BACK) {
                deck.place[h] += move == THEN_ON ? 1 : -1;
            }
            return cell;
        }

        private int takeAt(int sort, int h, int place) {
            if (refusal != 0 || taken >= TAKEN_MOST) {
                return 0;
            }
            takenSort[taken] = sort;
            takenLoop[taken] = deck.over[h];
            takenPlace[taken] = place;
            taken++;
            return taken - 1;
        }

        private long told(int cell) {
            meet(cell);
            return refusal == 0 ? deck.valueAt(takenLoop[cell], takenPlace[cell]) : 0;
        }

        /** Sets a taken CELL: what it is now. */
        private long set(int cell, long value) {
            meet(cell);
            if (refusal != 0) {
                return 0;
            }
            deck.setAt(takenLoop[cell], takenPlace[cell], value);
            return deck.valueAt(takenLoop[cell], takenPlace[cell]);
        }

        private void meet(int cell) {
            if (refusal != 0) {
                return;
            }
            int n = takenLoop[cell];
            if (!deck.hasLoop(n) || deck.sort[n] != takenSort[cell]) {
                refusal = MISSING;
            } else if (takenPlace[cell] < 0 || takenPlace[cell] >= deck.cells[n].length) {
                refusal = OFF;
            }
        }
    }

    /** The TOKENS of a text. */
    private static final class Tokens {
        // A SIGN's kind is its byte, which is above these.
        private static final int NAME = 1;
        private static final int FIGURE = 2;
        private static final int EOL = 3;
        private static final int TEXT_END = 4;
        private static final int BAD = 5;
        private static final int MOST_OF_THEM = TAPE_MOST + 2;
        private static final int LETTERS_MOST = 8;
        private static final int DIGITS_MOST = 6;
        private static final int DECIMALS_MOST = 4;

        private final int[] kind = new int[MOST_OF_THEM];
        private final int[] line = new int[MOST_OF_THEM];
        /** A NAME's letters, five bits each; a NUMBER's BITS. */
        private final long[] value = new long[MOST_OF_THEM];
        private int found;
        private int lineNow;

        /** Finds them all, or those ahead of the first BAD one, and that; else TEXT_END is the last. */
        void scan(byte[] text, int length) {
            found = 0;
            lineNow = 0;
            int firstOfLine = 0;
            int at = 0;
            while (at < length) {
                int c = text[at];
                if (c == 10) {
                    endLine(firstOfLine);
                    lineNow++;
                    firstOfLine = found;
                    at++;
                } else if (c == ' ') {
                    at++;
                } else if (c == ';') {
                    at = behindRemark(text, at, length);
                } else {
                    at = behindToken(text, at, length);
                    if (kind[found - 1] == BAD) {
                        return;
                    }
                }
            }
            endLine(firstOfLine);
            add(TEXT_END, 0);
        }

        /** How many there are, without TEXT_END. */
        int inAll() {
            return found - 1;
        }

        private void endLine(int firstOfLine) {
            if (found > firstOfLine) {
                add(EOL, 0);
            }
        }

        private void add(int newKind, long newValue) {
            if (found < MOST_OF_THEM) {
                kind[found] = newKind;
                value[found] = newValue;
                line[found] = lineNow;
                found++;
            }
        }

        private static int behindRemark(byte[] text, int from, int length) {
            int at = from;
            while (at < length && text[at] != 10) {
                at++;
            }
            return at;
        }

        private int behindToken(byte[] text, int from, int length) {
            int c = text[from];
            if (c >= 'a' && c <= 'z') {
                return behindName(text, from, length);
            }
            if (c >= '0' && c <= '9') {
                return behindFigure(text, from, length);
            }
            boolean sign = c >= '(' && c <= '-' || c == '/' || c >= '<' && c <= '>';
            add(sign ? c : BAD, 0);
            return from + 1;
        }

        private int behindName(byte[] text, int from, int length) {
            long letters = 0;
            int at = from;
            while (at < length && text[at] >= 'a' && text[at] <= 'z') {
                letters = letters << 5 | text[at] - 'a' + 1;
                at++;
            }
            add(at - from > LETTERS_MOST ? BAD : NAME, letters);
            return at;
        }

        private int behindFigure(byte[] text, int from, int length) {
            int point = behindDigits(text, from, length);
            int at = point;
            if (point + 1 < length && text[point] == '.' && isDigit(text[point + 1])) {
                at = behindDigits(text, point + 1, length);
            }
            if (point - from > DIGITS_MOST || at - point > DECIMALS_MOST + 1) {
                add(BAD, 0);
                return at;
            }
            long digits = 0;
            long parts = 1;
            for (int i = from; i < at; i++) {
                if (i != point) {
                    digits = digits * 10 + text[i] - '0';
                    parts = i > point ? parts * 10 : parts;
                }
            }
            // Both are exact, so that one division rounds to the nearest.
            add(FIGURE, Reals.divide(Reals.ofWhole(digits), Reals.ofWhole(parts)));
            return at;
        }

        private static int behindDigits(byte[] text, int from, int length) {
            int at = from;
            while (at < length && isDigit(text[at])) {
                at++;
            }
            return at;
        }

        private static boolean isDigit(int c) {
            return c >= '0' && c <= '9';
        }
    }

    /** A SCORE, as steps: its LINES, each with its E's as a row of codes, and the ways between them. */
    private static final class Score {
        private static final int PARTS_MOST = 30;
        private static final int LINES_MOST = 200;
        private static final int TOKENS_MOST = 1200;
        // A LINE makes at most two steps, a PART one more; a TOKEN makes at most one code.
        private static final int STEPS_MOST = 2 * LINES_MOST + PARTS_MOST;

        /** The word of each step, where its codes begin, and the try around it. */
        private final int[] word = new int[STEPS_MOST];
        private final int[] codesFrom = new int[STEPS_MOST];
        private final int[] guard = new int[STEPS_MOST];
        /** Of do, start the PART, of if the way if it is not so, of on its refusal, of LEAVE, AGAIN their block. */
        private final int[] to = new int[STEPS_MOST];
        /** The step behind a block's end. */
        private final int[] behind = new int[STEPS_MOST];
        /** The first on of a try, the next on of an on. */
        private final int[] nextOn = new int[STEPS_MOST];
        private final int[] codes = new int[TOKENS_MOST];
        private final long[] numbers = new long[TOKENS_MOST];
        private final int[] start = new int[PARTS_MOST];
        private int parts;
        private int steps;
        private int coded;

        void clear() {
            parts = 0;
            steps = 0;
            coded = 0;
        }

        /** A text that is too long for a SCORE is read to its end for its faults: what has no room is let go. */
        int addStep(int newWord, int newTo, int newGuard) {
            int i = steps < STEPS_MOST ? steps : STEPS_MOST - 1;
            word[i] = newWord;
            codesFrom[i] = coded;
            guard[i] = newGuard;
            to[i] = newTo;
            behind[i] = NONE;
            nextOn[i] = NONE;
            steps = i + 1;
            return i;
        }

        void addCode(int code, long number) {
            if (coded < TOKENS_MOST) {
                codes[coded] = code;
                numbers[coded] = number;
                coded++;
            }
        }

        void addPart() {
            if (parts < PARTS_MOST) {
                start[parts] = steps;
            }
            parts++;
        }
    }

    /** Reads a text as a SCORE, TOKEN by TOKEN; behind the first fault nothing more is looked at. */
    private static final class Reader {
        private static final int BAD_TOKEN = 1;
        private static final int CANT_STAND = 2;
        private static final int PART_TWICE = 3;
        private static final int TOO_OPEN = 4;
        private static final int NO_PART = 5;
        private static final int TOO_LONG = 6;
        private static final int OPEN_MOST = 20;
        private static final int NAMES_MOST = TAPE_MOST / 5;

        /** How many E's the LINES from LOOP to WAIT have. */
        private static final int[] SUMS_OF = {2, 2, 1, 3, 2, 2, 3, 2, 1, 1, 1, 8, 1, 6, 1};

        private final Tokens tokens = new Tokens();
        private final long[] words = new long[WORDS_IN_ALL];
        private final long[] partName = new long[NAMES_MOST];
        private final long[] calledName = new long[NAMES_MOST];
        private final int[] calledFrom = new int[NAMES_MOST];
        private final int[] blockWord = new int[OPEN_MOST];
        private final int[] blockStep = new int[OPEN_MOST];
        /** The latest step of a block that leads on from it: of if its else, of try its latest on. */
        private final int[] blockLast = new int[OPEN_MOST];
        private Score score;
        private int at;
        private int fault;
        private int faultLine;
        private int blocks;
        private int open;
        private int called;
        private int lines;
        private boolean inPart;

        Reader() {
            int known = learn(DECK_WORDS, 0);
            known = learn(DESK_WORDS, known);
            known = learn(LEADING_WORDS, known);
            known = learn(SUM_WORDS, known);
            learn(REFUSAL_WORDS, known);
        }

        private int learn(String row, int from) {
            int known = from;
            long letters = 0;
            for (int i = 0; i < row.length() && known < WORDS_IN_ALL; i++) {
                if (row.charAt(i) == ' ') {
                    words[known] = letters;
                    known++;
                    letters = 0;
                } else {
                    letters = letters << 5 | row.charAt(i) - 'a' + 1;
                }
            }
            return known;
        }

        /** 0, or 16 times the line of the fault and its kind. */
        int fill(Score empty, byte[] text, int length) {
            score = empty;
            score.clear();
            at = 0;
            fault = 0;
            faultLine = 0;
            blocks = 0;
            open = 0;
            called = 0;
            lines = 0;
            inPart = false;
            tokens.scan(text, length);
            for (int i = 0; i < Tokens.MOST_OF_THEM && fault == 0 && kind() != Tokens.TEXT_END; i++) {
                if (inPart) {
                    readLine();
                } else {
                    readPart();
                }
            }
            if (fault == 0 && (inPart || score.parts == 0)) {
                fail(CANT_STAND);
            }
            if (fault == 0) {
                lookAtWhole();
            }
            return 16 * faultLine + fault;
        }

        private void lookAtWhole() {
            for (int i = 0; i < called; i++) {
                int part = partCalled(calledName[i]);
                if (part == NONE) {
                    fault = NO_PART;
                }
                score.to[calledFrom[i]] = part;
            }
            boolean tooLong = tokens.inAll() > Score.TOKENS_MOST || score.parts > Score.PARTS_MOST
                    || lines > Score.LINES_MOST;
            if (fault == 0 && tooLong) {
                fault = TOO_LONG;
            }
        }

        private int partCalled(long name) {
            for (int i = 0; i < score.parts && i < NAMES_MOST; i++) {
                if (partName[i] == name) {
                    return i;
                }
            }
            return NONE;
        }

        private int kind() {
            return tokens.kind[at];
        }

        /** Which of the words from first to last the TOKEN is; NONE for another. */
        private int wordAmong(int first, int last) {
            if (kind() != Tokens.NAME) {
                return NONE;
            }
            for (int i = first; i <= last; i++) {
                if (words[i] == tokens.value[at]) {
                    return i;
                }
            }
            return NONE;
        }

        private void fail(int newFault) {
            if (fault == 0) {
                fault = tokens.kind[at] == Tokens.BAD ? BAD_TOKEN : newFault;
                faultLine = tokens.line[at];
            }
        }

        /** Goes on behind the TOKEN, if it is of this kind. */
        private void expect(int wanted) {
            if (fault != 0) {
                return;
            }
            if (kind() == wanted) {
                at++;
            } else {
                fail(CANT_STAND);
            }
        }

        private boolean opens() {
            if (open == OPEN_MOST) {
                fail(TOO_OPEN);
                return false;
            }
            open++;
            return true;
        }

        private void readPart() {
            if (wordAmong(PART, PART) == NONE) {
                fail(CANT_STAND);
                return;
            }
            at++;
            if (kind() == Tokens.NAME && partCalled(tokens.value[at]) != NONE) {
                fail(PART_TWICE);
            }
            if (score.parts < NAMES_MOST) {
                partName[score.parts] = tokens.value[at];
            }
            expect(Tokens.NAME);
            expect(Tokens.EOL);
            score.addPart();
            inPart = true;
        }

        private void readLine() {
            int word = wordAmong(LOOP, END);
            switch (word) {
                case DO:
                case START:
                    readCall(word);
                    break;
                case STOP:
                    addLine(STOP, NONE);
                    at++;
                    break;
                case IF:
                case WHILE:
                case TRY:
                    readBlock(word);
                    break;
                case ON:
                    readOn();
                    break;
                case ELSE:
                    readElse();
                    break;
                case END:
                    readEnd();
                    break;
                case NONE:
                    fail(CANT_STAND);
                    break;
                default:
                    readDoing(word);
                    break;
            }
            expect(Tokens.EOL);
        }

        private int addLine(int word, int to) {
            lines++;
            return score.addStep(word, to, guardHere());
        }

        /** The nearest try among whose own LINES the reading is; NONE without one. */
        private int guardHere() {
            for (int i = blocks - 1; i >= 0; i--) {
                if (blockWord[i] == TRY) {
                    return blockStep[i];
                }
            }
            return NONE;
        }

        private void readDoing(int word) {
            addLine(word, NONE);
            at++;
            for (int i = 0; i < SUMS_OF[word]; i++) {
                if (i > 0) {
                    expect(word == SET || word == PUT ? '=' : ',');
                }
                readSum();
            }
            score.addCode(OVER, 0);
        }

        private void readCall(int word) {
            int step = addLine(word, NONE);
            at++;
            if (called < NAMES_MOST) {
                calledName[called] = tokens.value[at];
                calledFrom[called] = step;
                called++;
            }
            expect(Tokens.NAME);
        }

        private void readBlock(int word) {
            if (!opens()) {
                return;
            }
            int step = addLine(word, NONE);
            at++;
            if (word != TRY) {
                readSum();
                int sign = kind();
                expect(sign == '<' || sign == '>' ? sign : '=');
                readSum();
                score.addCode(sign == '<' ? LESS : sign == '>' ? MORE : SAME, 0);
                score.addCode(OVER, 0);
            }
            if (blocks < OPEN_MOST) {
                blockWord[blocks] = word;
                blockStep[blocks] = step;
                blockLast[blocks] = step;
                blocks++;
            }
        }

        private int innermost() {
            return blocks == 0 ? NONE : blockWord[blocks - 1];
        }

        private void readOn() {
            if (innermost() != TRY && innermost() != ON) {
                fail(CANT_STAND);
                return;
            }
            at++;
            int refusal = wordAmong(FIRST_REFUSAL_WORD, WORDS_IN_ALL - 1);
            if (refusal == NONE) {
                fail(CANT_STAND);
                return;
            }
            at++;
            int block = blocks - 1;
            blockWord[block] = ON;
            score.addStep(LEAVE, blockStep[block], NONE);
            int step = addLine(ON, refusal - FIRST_REFUSAL_WORD + 1);
            score.nextOn[blockLast[block]] = step;
            blockLast[block] = step;
        }

        private void readElse() {
            if (innermost() != IF) {
                fail(CANT_STAND);
                return;
            }
            at++;
            lines++;
            int block = blocks - 1;
            blockWord[block] = ELSE;
            score.addStep(LEAVE, blockStep[block], NONE);
            score.to[blockStep[block]] = score.steps;
        }

        private void readEnd() {
            at++;
            if (blocks == 0) {
                score.addStep(RETURN, NONE, NONE);
                inPart = false;
                return;
            }
            blocks--;
            open--;
            int step = blockStep[blocks];
            if (blockWord[blocks] == WHILE) {
                score.addStep(AGAIN, step, NONE);
            }
            score.behind[step] = score.steps;
            if (blockWord[blocks] == IF) {
                score.to[step] = score.steps;
            }
        }

        /** This and readFactor call one another, as deep as OPEN_MOST lets them. */
        private void readSum() {
            int times = NONE;
            int plus = NONE;
            boolean goesOn = true;
            for (int i = 0; i < Tokens.MOST_OF_THEM && goesOn && fault == 0; i++) {
                readFactor();
                addWaiting(times);
                times = kind() == '*' ? MULTIPLY : kind() == '/' ? DIVIDE : NONE;
                goesOn = times != NONE;
                if (!goesOn) {
                    addWaiting(plus);
                    plus = kind() == '+' ? ADD : kind() == '-' ? SUBTRACT : NONE;
                    goesOn = plus != NONE;
                }
                if (goesOn && fault == 0) {
                    at++;
                }
            }
        }

        /** Adds the code of a SIGN whose right side has been read. */
        private void addWaiting(int code) {
            if (code != NONE) {
                score.addCode(code, 0);
            }
        }

        private void readFactor() {
            int word = wordAmong(DIAL, HURT);
            if (kind() == Tokens.FIGURE) {
                score.addCode(NUMBER, tokens.value[at]);
                at++;
                return;
            }
            if (word == NOW || word == HURT) {
                score.addCode(word, 0);
                at++;
                return;
            }
            if (kind() == '-') {
                if (opens()) {
                    at++;
                    readFactor();
                    open--;
                    score.addCode(NEGATE, 0);
                }
                return;
            }
            if (word != NONE) {
                at++;
            }
            if (kind() != '(') {
                fail(CANT_STAND);
            }
            if (fault != 0 || !opens()) {
                return;
            }
            at++;
            readSum();
            if (word == LEAST || word == MOST) {
                expect(',');
                readSum();
            }
            expect(')');
            open--;
            addWaiting(word);
        }
    }

    /** A PLAYER: the PARTS in one another, and the step at which it is in each. */
    private static final class Player {
        private static final int PARTS_DEEP = 12;

        private final int[] part = new int[PARTS_DEEP];
        private final int[] at = new int[PARTS_DEEP];
        /** 0 when it has ended. */
        private int depth;
        private int until = NONE;
        private int lines;
        private int hurt;

        void begin(int firstPart, int step) {
            depth = 0;
            until = NONE;
            lines = 0;
            hurt = 0;
            enter(firstPart, step);
        }

        boolean enter(int newPart, int step) {
            if (depth == PARTS_DEEP) {
                return false;
            }
            part[depth] = newPart;
            at[depth] = step;
            depth++;
            return true;
        }

        boolean ended() {
            return depth == 0;
        }

        void end() {
            depth = 0;
        }

        int step() {
            return depth == 0 ? 0 : at[depth - 1];
        }

        void goTo(int step) {
            if (depth > 0) {
                at[depth - 1] = step;
            }
        }

        int tell(int what) {
            switch (what) {
                case 0: return depth == 0 ? NONE : part[depth - 1];
                case 1: return depth;
                case 2: return until;
                case 3: return lines;
                default: return NONE;
            }
        }
    }

    /** Works out the E's of a LINE, from the left to the right, into a row. */
    private static final class Sums {
        // Three for each of the twenty that may be open, and the eight of a plug, are below it.
        private static final int ROW_MOST = 96;

        private final Deck deck;
        private final long[] row = new long[ROW_MOST];
        private int height;

        Sums(Deck deck) {
            this.deck = deck;
        }

        /** The refusal of one of them, or 0: then they stand in the row. */
        int workOut(Score score, int from, int now, int hurt) {
            height = 0;
            int refusal = 0;
            for (int i = from; refusal == 0 && i < score.coded && score.codes[i] != OVER; i++) {
                int code = score.codes[i];
                if (code == NUMBER) {
                    push(score.numbers[i]);
                } else if (code == NOW || code == HURT) {
                    push(Reals.ofWhole(code == NOW ? now : hurt));
                } else if (code <= LOUD) {
                    refusal = pushThing(code, Reals.whole(pop()));
                } else if (code == ABS || code == WHOLE || code == NEGATE) {
                    pushChanged(code, pop());
                } else {
                    long right = pop();
                    refusal = pushBoth(code, pop(), right);
                }
            }
            return refusal;
        }

        private void push(long value) {
            if (height < ROW_MOST) {
                row[height] = value;
                height++;
            }
        }

        private long pop() {
            if (height == 0) {
                return 0;
            }
            height--;
            return row[height];
        }

        private int pushThing(int code, int n) {
            int things = code == DIAL ? DIALS : code == CELL || code == PLACE ? HEADS : LOOPS;
            if (n < 0 || n >= things) {
                return NO_SUCH;
            }
            if (code >= LENGTH && !deck.hasLoop(n)) {
                return MISSING;
            }
            if (code == CELL && deck.refusalUnder(n) != 0) {
                return deck.refusalUnder(n);
            }
            switch (code) {
                case DIAL:
                    push(deck.dials[n]);
                    break;
                case CELL:
                    push(deck.valueAt(deck.over[n], deck.place[n]));
                    break;
                case PLACE:
                    push(Reals.ofWhole(deck.place[n]));
                    break;
                case LENGTH:
                    push(Reals.ofWhole(deck.cells[n].length));
                    break;
                case SUM:
                    push(deck.total(n));
                    break;
                default:
                    push(deck.loudest(n));
                    break;
            }
            return 0;
        }

        private void pushChanged(int code, long a) {
            switch (code) {
                case ABS:
                    push(Reals.size(a));
                    break;
                case WHOLE:
                    push(Reals.ofWhole(Reals.whole(a)));
                    break;
                default:
                    push(Reals.negated(a));
                    break;
            }
        }

        private int pushBoth(int code, long a, long b) {
            if (code == DIVIDE && Reals.isZero(b)) {
                return ZERO;
            }
            switch (code) {
                case ADD:
                    push(Reals.add(a, b));
                    break;
                case SUBTRACT:
                    push(Reals.subtract(a, b));
                    break;
                case MULTIPLY:
                    push(Reals.multiply(a, b));
                    break;
                case DIVIDE:
                    push(Reals.divide(a, b));
                    break;
                case LEAST:
                    push(Reals.least(a, b));
                    break;
                case MOST:
                    push(Reals.most(a, b));
                    break;
                default:
                    pushCondition(code, a, b);
                    break;
            }
            return 0;
        }

        private void pushCondition(int code, long a, long b) {
            boolean so = code == LESS ? Reals.less(a, b) : code == MORE ? Reals.less(b, a) : Reals.same(a, b);
            push(so ? 1 : 0);
        }
    }

    /** The TICKS: the PLAYERS with their SCORE, the desk, and the time. */
    private static final class Stage {
        private static final int PLAYERS_MOST = 8;
        private static final int LINES_IN_TICK = 40;
        private static final int BURST_MOST = 300;
        private static final int WHERE_PARTS_BEGIN = 100;
        // The ANSWERS that are none of a PART.
        private static final int PASS = 0;
        private static final int HOME = 1;
        private static final int ROUND = 2;
        private static final int EMPTY = 3;
        private static final int HALT = 4;
        private static final int HALVE_DIAL = 5;
        // Far above the ways between two LINES: twelve PARTS, in each of them twenty blocks.
        private static final int WAYS_MOST = 1000;

        private final Deck deck;
        private final Acts acts;
        private final Ledger ledger;
        private final Sums sums;
        private final Box[] boxes = new Box[SLOTS];
        private final Box asked = new Box();
        private final Player[] players = new Player[PLAYERS_MOST];
        private Score score = new Score();
        private Score spare = new Score();
        private int here;
        private int now;

        Stage(Deck deck, Acts acts, Ledger ledger) {
            this.deck = deck;
            this.acts = acts;
            this.ledger = ledger;
            sums = new Sums(deck);
            for (int s = 0; s < SLOTS; s++) {
                boxes[s] = new Box();
            }
            for (int i = 0; i < PLAYERS_MOST; i++) {
                players[i] = new Player();
            }
        }

        void changeScore() {
            Score old = score;
            score = spare;
            spare = old;
            here = 0;
        }

        boolean begin(int k) {
            if (k < 0 || k >= score.parts || here == PLAYERS_MOST) {
                return false;
            }
            players[here].begin(k, score.start[k]);
            here++;
            return true;
        }

        /** Whether a box HALTS the run. */
        boolean tick() {
            int i = 0;
            for (int turns = here; turns > 0; turns--) {
                takeTurn(players[i]);
                if (players[i].ended()) {
                    dismiss(i);
                } else {
                    i++;
                }
            }
            boolean halted = false;
            for (int s = 0; s < SLOTS && !halted; s++) {
                halted = useSlot(s);
            }
            deck.glideOn();
            now++;
            return halted;
        }

        private void dismiss(int i) {
            Player gone = players[i];
            for (int k = i + 1; k < here; k++) {
                players[k - 1] = players[k];
            }
            here--;
            players[here] = gone;
        }

        private void takeTurn(Player player) {
            if (player.until > now) {
                return;
            }
            player.until = NONE;
            settle(player);
            for (int did = 0; did < LINES_IN_TICK && mayGoOn(player); did++) {
                int step = player.step();
                int word = score.word[step];
                ledger.lines++;
                player.lines++;
                int refusal = word <= WAIT || word == IF || word == WHILE
                        ? sums.workOut(score, score.codesFrom[step], now, player.hurt) : 0;
                if (refusal == 0) {
                    refusal = word <= RECALL ? deck.obey(word, sums.row)
                            : word <= BURST ? obeyAtDesk(word, sums.row) : lead(player, word, step);
                }
                if (refusal == 0 && word == BURST) {
                    refusal = acts.repeat(asked, Reals.whole(sums.row[5]));
                }
                if (refusal != 0) {
                    refuse(player, refusal);
                } else if (word <= BURST) {
                    player.goTo(step + 1);
                }
                settle(player);
            }
        }

        private boolean mayGoOn(Player player) {
            return !player.ended() && player.until == NONE && !ledger.worn();
        }

        /** Brings a PLAYER to its next LINE, or to its end; one that waits stays behind a PART's last LINE. */
        private void settle(Player player) {
            for (int ways = 0; ways < WAYS_MOST && !player.ended(); ways++) {
                int step = player.step();
                switch (score.word[step]) {
                    case LEAVE:
                        player.goTo(score.behind[score.to[step]]);
                        break;
                    case AGAIN:
                        player.goTo(score.to[step]);
                        break;
                    case RETURN:
                        if (player.until != NONE) {
                            return;
                        }
                        player.depth--;
                        player.goTo(player.step() + 1);
                        break;
                    default:
                        return;
                }
            }
        }

        /** Does a LINE that leads the PLAYER: its refusal, or 0. */
        private int lead(Player player, int word, int step) {
            boolean so = sums.row[0] != 0;
            switch (word) {
                case WAIT:
                    player.goTo(step + 1);
                    beginWait(player, Reals.whole(sums.row[0]));
                    return 0;
                case DO:
                    return player.enter(score.to[step], score.start[score.to[step]]) ? 0 : DEEP;
                case START:
                    if (!begin(score.to[step])) {
                        return FULL;
                    }
                    player.goTo(step + 1);
                    return 0;
                case STOP:
                    player.end();
                    return 0;
                case IF:
                    player.goTo(so ? step + 1 : score.to[step]);
                    return 0;
                case WHILE:
                    player.goTo(so ? step + 1 : score.behind[step]);
                    return 0;
                default:
                    player.goTo(step + 1);
                    return 0;
            }
        }

        private void beginWait(Player player, int ticks) {
            if (ticks >= 1) {
                player.until = ticks > GREATEST_INT - now ? GREATEST_INT : now + ticks;
            }
        }

        private void refuse(Player player, int refusal) {
            ledger.lineRefused(now, refusal, WHERE_PARTS_BEGIN + player.tell(0));
            for (int depth = player.depth; depth > 0; depth--) {
                int on = onFor(refusal, score.guard[player.at[depth - 1]]);
                if (on != NONE) {
                    player.depth = depth;
                    // When it is WORN the on is gone into all the same, but it is no LINE that could still be done.
                    player.goTo(ledger.worn() ? on + 1 : on);
                    player.hurt = refusal;
                    ledger.taken++;
                    return;
                }
            }
            player.end();
            ledger.fallen++;
        }

        /** The on that takes a refusal, of this try or the nearest around it; NONE without one. */
        private int onFor(int refusal, int innermost) {
            int block = innermost;
            for (int i = 0; i < Score.STEPS_MOST && block != NONE; i++) {
                int on = score.nextOn[block];
                for (int k = 0; k < Score.STEPS_MOST && on != NONE; k++) {
                    if (score.to[on] == refusal || score.to[on] == ANY) {
                        return on;
                    }
                    on = score.nextOn[on];
                }
                block = score.guard[block];
            }
            return NONE;
        }

        /** Does plug or pull, or makes the box ready that is asked to burst: the refusal, or 0. */
        private int obeyAtDesk(int word, long[] e) {
            int first = Reals.whole(e[0]);
            if (word == BURST) {
                asked.fill(e, 0);
                return asked.stands() && Reals.whole(e[5]) <= BURST_MOST ? 0 : NO_SUCH;
            }
            if (first < 0 || first >= SLOTS) {
                return NO_SUCH;
            }
            if (word == PULL) {
                boxes[first].kind = NONE;
                return 0;
            }
            asked.fill(e, 1);
            asked.every = Reals.whole(e[6]);
            asked.answer = Reals.whole(e[7]);
            if (!asked.stands() || !asked.answers()) {
                return NO_SUCH;
            }
            boxes[first].copyFrom(asked);
            return 0;
        }

        /** Lets the box of a SLOT act, if it is its time: whether it HALTS the run. */
        private boolean useSlot(int s) {
            Box box = boxes[s];
            if (box.empty() || box.every < 1 || now % box.every != 0 || ledger.worn()) {
                return false;
            }
            int refusal = acts.repeat(box, 1);
            if (refusal == 0) {
                return false;
            }
            box.refused++;
            ledger.actRefused(now, refusal, s);
            return answer(box);
        }

        private boolean answer(Box box) {
            switch (box.answer) {
                case PASS:
                    return false;
                case HOME:
                case ROUND:
                    bringBack(box, box.answer == HOME);
                    return false;
                case EMPTY:
                    box.kind = NONE;
                    return false;
                case HALT:
                    return true;
                case HALVE_DIAL:
                    deck.setDial(box.g, Reals.multiply(deck.dials[box.g], Reals.HALF));
                    return false;
                default:
                    begin(box.answer - Box.FIRST_PART_ANSWER);
                    return false;
            }
        }

        private void bringBack(Box box, boolean home) {
            for (int i = 0; i < box.headsTold(); i++) {
                int h = box.headAt(i);
                int n = deck.over[h];
                if (home) {
                    deck.place[h] = 0;
                } else if (deck.hasLoop(n) && deck.cells[n].length > 0) {
                    deck.place[h] = Math.floorMod(deck.place[h], deck.cells[n].length);
                }
            }
        }
    }
}
