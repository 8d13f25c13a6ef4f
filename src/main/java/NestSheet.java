import java.util.Arrays;

/** A sheet of 32 cells whose formulas work on arrays of arrays. */
public final class NestSheet {
    public static final int BAD = -1, STATE = -2, FULL = -3, NONE = -5;

    private static final int TAPE = 80;
    private static final int LOWEST = 32;
    private static final int HIGHEST = 126;
    private static final int TURNS = 1000000;

    private final byte[] tape = new byte[TAPE];
    private int taped;
    private final Reader reader = new Reader();
    private final Cells cells = new Cells();
    private final Changes changes = new Changes();
    private final Worker worker = new Worker(cells);
    private final Paper paper = new Paper();
    private Value whole = Value.none();
    private Value hand = whole;

    public NestSheet() {
    }

    // ---- 1 formulas

    public int type(long w, int n) {
        if (n < 1 || n > 8) {
            return BAD;
        }
        for (int i = 0; i < n; i++) {
            int sign = byteOf(w, i);
            if (sign < LOWEST || sign > HIGHEST) {
                return BAD;
            }
        }
        if (taped + n > TAPE) {
            return FULL;
        }
        for (int i = n - 1; i >= 0; i--) {
            if (taped >= 0 && taped < tape.length) {
                tape[taped] = (byte) byteOf(w, i);
                taped++;
            }
        }
        return taped;
    }

    public int enter(int cell) {
        if (!Cells.named(cell)) {
            return BAD;
        }
        int fault = reader.read(tape, taped);
        if (fault == 0) {
            change(cell, reader.made());
        }
        taped = 0;
        return fault;
    }

    public int clear(int cell) {
        if (!Cells.named(cell)) {
            return BAD;
        }
        Formula gone = cells.at(cell);
        if (gone == null) {
            return 0;
        }
        change(cell, null);
        return gone.length();
    }

    public int formula(int cell, int i) {
        if (!Cells.named(cell)) {
            return BAD;
        }
        Formula one = cells.at(cell);
        if (one == null) {
            return i == -1 ? 0 : NONE;
        }
        if (i == -1) {
            return one.length();
        }
        return i >= 0 && i < one.length() ? one.letter(i) : NONE;
    }

    public int undo() {
        if (!changes.back()) {
            return STATE;
        }
        cells.put(changes.cell(), changes.before());
        return changes.cell();
    }

    public int redo() {
        if (!changes.forth()) {
            return STATE;
        }
        cells.put(changes.cell(), changes.after());
        return changes.cell();
    }

    // ---- 2 cells

    public int needs(int cell, int other) {
        if (!Cells.named(cell) || !Cells.named(other)) {
            return BAD;
        }
        if (cells.names(cell, other)) {
            return 1;
        }
        return cells.reaches(cell, other) ? 2 : 0;
    }

    public int stale() {
        int count = 0;
        for (int cell = 0; cell < Cells.COUNT; cell++) {
            if (cells.open(cell)) {
                count++;
            }
        }
        return count;
    }

    public int worked(int cell) {
        return Cells.named(cell) ? cells.times(cell) : BAD;
    }

    public int ask(int cell) {
        if (!Cells.named(cell)) {
            return BAD;
        }
        if (worker.spent() && cells.open(cell)) {
            return FULL;
        }
        worker.start(cell);
        for (int turn = 0; turn < TURNS && worker.busy(); turn++) {
            worker.turn();
        }
        whole = worker.answer(cell);
        hand = whole;
        return hand.sort;
    }

    public int steps(int which) {
        if (which == 0) {
            return worker.made();
        }
        return which == 1 ? worker.madeInAll() : BAD;
    }

    // ---- 3 the value

    public int down(int i) {
        if (i < 0 || i >= hand.count()) {
            return BAD;
        }
        hand = hand.item(i);
        return hand.sort;
    }

    public int top() {
        hand = whole;
        return hand.sort;
    }

    public int told(int what) {
        boolean failed = hand.sort == Value.FAILURE;
        switch (what) {
            case 0:
                return hand.sort;
            case 1:
                return hand.sort == Value.ARRAY ? hand.count() : NONE;
            case 2:
                return failed ? NONE : hand.in;
            case 3:
                return failed ? NONE : hand.depth;
            case 4:
                return failed ? (int) hand.word : NONE;
            case 5:
                return failed ? hand.cell : NONE;
            case 6:
                return failed ? hand.place : NONE;
            case 7:
                return hand.sort == Value.SIGN ? (int) hand.word : NONE;
            default:
                return BAD;
        }
    }

    public long number() {
        return hand.sort == Value.WHOLE || hand.sort == Value.REAL ? hand.word : 0L;
    }

    public int print() {
        return paper.show(hand);
    }

    public int out(int i) {
        return i >= 0 && i < paper.length() ? paper.letter(i) : NONE;
    }

    private static int byteOf(long w, int i) {
        return (int) (w >>> (8 * i)) & 255;
    }

    private void change(int cell, Formula after) {
        changes.record(cell, cells.at(cell), after);
        cells.put(cell, after);
    }

    /** A leaf, an array or a failure; never changed once made, so that many may share it. */
    static final class Value {
        static final int WHOLE = 0;
        static final int REAL = 1;
        static final int SIGN = 2;
        static final int ARRAY = 3;
        static final int FAILURE = 4;

        static final int KIND = 1;
        static final int LENGTH = 2;
        static final int ZERO = 3;
        static final int INDEX = 4;
        static final int SIZE = 5;
        static final int LOOP = 6;
        static final int STEPS = 7;

        static final int WIDEST = 32;
        static final int MOST = 200;
        static final int DEEPEST = 4;

        /** The place of a failure whose finder doesn't know where it stands. */
        private static final int UNPLACED = -1;

        final int sort;
        final long word;
        final int in;
        final int depth;
        final int cell;
        final int place;
        private final Value[] items;

        private Value(int sort, long word, Value[] items, int in, int depth, int cell, int place) {
            this.sort = sort;
            this.word = word;
            this.items = items;
            this.in = in;
            this.depth = depth;
            this.cell = cell;
            this.place = place;
        }

        static Value leaf(int sort, long word) {
            return new Value(sort, word, null, 1, 0, 0, 0);
        }

        static Value whole(long word) {
            return new Value(WHOLE, word, null, 1, 0, 0, 0);
        }

        static Value none() {
            return new Value(ARRAY, 0L, new Value[0], 1, 1, 0, 0);
        }

        static Value failure(int kind, int cell, int place) {
            return new Value(FAILURE, kind, null, 0, 0, cell, place);
        }

        static Value found(int kind) {
            return new Value(FAILURE, kind, null, 0, 0, 0, UNPLACED);
        }

        /** The array of these values, which the caller gives away; or the failure SIZE. */
        static Value array(Value[] items) {
            int in = 1;
            int depth = 1;
            for (Value each : items) {
                if (each != null) {
                    in += each.in;
                    depth = Math.max(depth, each.depth + 1);
                }
            }
            if (items.length > WIDEST || in > MOST || depth > DEEPEST) {
                return new Value(FAILURE, SIZE, null, 0, 0, 0, UNPLACED);
            }
            return new Value(ARRAY, 0L, items, in, depth, 0, 0);
        }

        Value placed(int byCell, int atPlace) {
            if (sort != FAILURE || place != UNPLACED) {
                return this;
            }
            return failure((int) word, byCell, atPlace);
        }

        int count() {
            return items == null ? 0 : items.length;
        }

        /** Value i of an array; the value itself where there is none such. */
        Value item(int i) {
            if (items == null || i < 0 || i >= items.length) {
                return this;
            }
            Value one = items[i];
            return one == null ? this : one;
        }

        /** Below 0 if x is ahead of y, above 0 if y is, 0 if they are alike. */
        private static int compare(Value x, Value y) {
            if (x.rank() != y.rank()) {
                return Integer.compare(x.rank(), y.rank());
            }
            if (x.sort == REAL && y.sort == REAL) {
                return Real.compare(x.word, y.word);
            }
            if (x.sort == REAL) {
                return -compare(y, x);
            }
            if (y.sort == REAL) {
                int order = Real.mixed(x.word, y.word);
                return order != 0 ? order : y.word == Real.SIGN_BIT ? 1 : -1;
            }
            int both = Math.min(x.count(), y.count());
            for (int i = 0; i < both; i++) {
                int order = compare(x.item(i), y.item(i));
                if (order != 0) {
                    return order;
                }
            }
            return x.sort == ARRAY ? Integer.compare(x.count(), y.count()) : Long.compare(x.word, y.word);
        }

        private int rank() {
            return sort == REAL ? WHOLE : sort;
        }
    }

    /** Doubles by their bits, since the numbers of a sheet may be no number at all. */
    static final class Real {
        static final long NAN = 0x7ff8000000000000L;
        static final long INFINITE = 0x7ff0000000000000L;
        static final long SIGN_BIT = 1L << 63;

        private static final long MAGNITUDE = 0x7fffffffffffffffL;
        private static final long FRACTION = (1L << 52) - 1;
        private static final long LOW27 = (1L << 27) - 1;
        private static final long LOW44 = (1L << 44) - 1;
        private static final long LOW54 = (1L << 54) - 1;
        private static final long MINUS_ONE = 0xbff0000000000000L;
        private static final long MINUS_2_TO_63 = 0xc3e0000000000000L;
        private static final int BIAS = 1023;
        private static final int UNIT = 1075;
        private static final int GUARD = 9;

        private Real() {
        }

        private static boolean isNan(long bits) {
            return (bits & MAGNITUDE) > INFINITE;
        }

        private static boolean isInfinite(long bits) {
            return (bits & MAGNITUDE) == INFINITE;
        }

        private static boolean isZero(long bits) {
            return (bits & MAGNITUDE) == 0L;
        }

        private static int exponent(long bits) {
            return Math.max(1, (int) (bits >>> 52) & 2047);
        }

        private static long mantissa(long bits) {
            long fraction = bits & FRACTION;
            return (bits & INFINITE) == 0L ? fraction : fraction | (1L << 52);
        }

        /** How far a mantissa is shifted to have its highest one at bit 52. */
        private static int lift(long mantissa) {
            return mantissa == 0L ? 0 : Long.numberOfLeadingZeros(mantissa) - 11;
        }

        /** The double nearest to m (above 0) by 2 to the power; the lowest bit of m may stand for all below it. */
        private static long round(long sign, int power, long m) {
            int up = Long.numberOfLeadingZeros(m) - 1;
            if (m <= 0L || up < 0) {
                return sign;
            }
            long full = m << up;
            int biased = power - up + 62 + BIAS;
            if (biased >= 2047) {
                return sign | INFINITE;
            }
            int drop = biased > 0 ? 10 : 11 - biased;
            if (drop > 63) {
                return sign;
            }
            long kept = full >>> drop;
            long rest = full & ((1L << drop) - 1);
            long half = 1L << (drop - 1);
            if (rest > half || (rest == half && (kept & 1L) == 1L)) {
                kept++;
            }
            return biased > 0 ? sign | (((long) (biased - 1) << 52) + kept) : sign | kept;
        }

        static long nearest(long whole) {
            if (whole == SIGN_BIT) {
                return MINUS_2_TO_63;
            }
            return round(whole & SIGN_BIT, 0, Math.abs(whole));
        }

        static long sum(long a, long b) {
            if (isNan(a) || isNan(b)) {
                return NAN;
            }
            if (isInfinite(a) || isInfinite(b)) {
                long infinite = isInfinite(a) ? a : b;
                return isInfinite(a) && isInfinite(b) && a != b ? NAN : infinite;
            }
            boolean inOrder = (a & MAGNITUDE) >= (b & MAGNITUDE);
            long large = inOrder ? a : b;
            long small = inOrder ? b : a;
            if (isZero(small)) {
                return isZero(large) ? a & b : large;
            }
            int power = exponent(large);
            int apart = power - exponent(small);
            long m = mantissa(large) << GUARD;
            long other = mantissa(small) << GUARD;
            if (apart > 62) {
                other = 1L;
            } else if (apart > 0) {
                long lost = other & ((1L << apart) - 1);
                other = (other >>> apart) | (lost == 0L ? 0L : 1L);
            }
            m = ((a ^ b) & SIGN_BIT) == 0L ? m + other : m - other;
            return m == 0L ? 0L : round(large & SIGN_BIT, power - UNIT - GUARD, m);
        }

        static long product(long a, long b) {
            long sign = (a ^ b) & SIGN_BIT;
            if (isNan(a) || isNan(b)) {
                return NAN;
            }
            if (isInfinite(a) || isInfinite(b)) {
                return isZero(a) || isZero(b) ? NAN : sign | INFINITE;
            }
            if (isZero(a) || isZero(b)) {
                return sign;
            }
            int upA = lift(mantissa(a));
            int upB = lift(mantissa(b));
            long ma = mantissa(a) << upA;
            long mb = mantissa(b) << upB;
            long middle = (ma >>> 27) * (mb & LOW27) + (ma & LOW27) * (mb >>> 27);
            long lower = (ma & LOW27) * (mb & LOW27) + ((middle & LOW27) << 27);
            long higher = (ma >>> 27) * (mb >>> 27) + (middle >>> 27) + (lower >>> 54);
            long m = (higher << 10) | ((lower & LOW54) >>> 44);
            int power = exponent(a) - upA + exponent(b) - upB - 2 * UNIT + 44;
            return round(sign, power, (lower & LOW44) == 0L ? m : m | 1L);
        }

        static long quotient(long a, long b) {
            long sign = (a ^ b) & SIGN_BIT;
            if (isNan(a) || isNan(b)) {
                return NAN;
            }
            if (isInfinite(a)) {
                return isInfinite(b) ? NAN : sign | INFINITE;
            }
            if (isInfinite(b)) {
                return sign;
            }
            int upA = lift(mantissa(a));
            int upB = lift(mantissa(b));
            long rest = mantissa(a) << upA;
            long divisor = mantissa(b) << upB;
            if (divisor == 0L) {
                return isZero(a) ? NAN : sign | INFINITE;
            }
            if (rest == 0L) {
                return sign;
            }
            long m = rest / divisor;
            rest = rest % divisor;
            for (int i = 0; i < 6; i++) {
                rest = rest << 10;
                m = (m << 10) | (rest / divisor);
                rest = rest % divisor;
            }
            int power = exponent(a) - upA - exponent(b) + upB - 60;
            return round(sign, power, rest == 0L ? m : m | 1L);
        }

        static long rest(long a, long b) {
            if (isNan(a) || isNan(b) || isInfinite(a)) {
                return NAN;
            }
            int upA = lift(mantissa(a));
            int upB = lift(mantissa(b));
            long rest = mantissa(a) << upA;
            long divisor = mantissa(b) << upB;
            if (divisor == 0L) {
                return NAN;
            }
            if ((a & MAGNITUDE) < (b & MAGNITUDE)) {
                return a;
            }
            int low = exponent(b) - upB;
            int apart = exponent(a) - upA - low;
            rest = rest % divisor;
            while (apart > 0) {
                int some = Math.min(apart, 10);
                rest = (rest << some) % divisor;
                apart -= some;
            }
            long sign = a & SIGN_BIT;
            return rest == 0L ? sign : round(sign, low - UNIT, rest);
        }

        static long negated(long bits) {
            return isNan(bits) ? NAN : bits ^ SIGN_BIT;
        }

        static long unsigned(long bits) {
            return bits & MAGNITUDE;
        }

        static long floor(long bits) {
            int power = ((int) (bits >>> 52) & 2047) - BIAS;
            if (power >= 52 || isZero(bits)) {
                return bits;
            }
            if (power < 0) {
                return bits < 0L ? MINUS_ONE : 0L;
            }
            long below = FRACTION >>> power;
            if ((bits & below) == 0L) {
                return bits;
            }
            return bits < 0L ? (bits + below) & ~below : bits & ~below;
        }

        /** The whole that a cast makes: cut toward 0, 0 of no number, the nearest whole of what is too large. */
        static long cast(long bits) {
            int power = ((int) (bits >>> 52) & 2047) - BIAS;
            if (power < 0 || (bits & MAGNITUDE) > INFINITE) {
                return 0L;
            }
            if (power >= 63) {
                return bits < 0L ? SIGN_BIT : MAGNITUDE;
            }
            long m = (bits & FRACTION) | (1L << 52);
            long size = power <= 52 ? m >>> (52 - power) : m << (power - 52);
            return bits < 0L ? -size : size;
        }

        static int compare(long a, long b) {
            long keyA = a < 0L ? a ^ MAGNITUDE : a;
            long keyB = b < 0L ? b ^ MAGNITUDE : b;
            return Long.compare(keyA, keyB);
        }

        static long lesser(long a, long b) {
            return isNan(a) || isNan(b) ? NAN : compare(a, b) < 0 ? a : b;
        }

        static long greater(long a, long b) {
            return isNan(a) || isNan(b) ? NAN : compare(a, b) > 0 ? a : b;
        }

        /** A whole against a real by their exact numbers: 0 where these are one. */
        static int mixed(long whole, long bits) {
            int power = ((int) (bits >>> 52) & 2047) - BIAS;
            if (power >= 63 && bits != MINUS_2_TO_63) {
                return bits < 0L && (bits & MAGNITUDE) <= INFINITE ? 1 : -1;
            }
            long m = (bits & FRACTION) | (1L << 52);
            long size = power < 0 ? 0L : power <= 52 ? m >>> (52 - power) : m << (power - 52);
            long cut = bits < 0L ? -size : size;
            if (whole != cut) {
                return whole < cut ? -1 : 1;
            }
            boolean exact = power >= 52 || (bits & MAGNITUDE) == 0L
                || (power >= 0 && (bits & (FRACTION >>> power)) == 0L);
            return exact ? 0 : bits < 0L ? 1 : -1;
        }
    }

    /** A text that was read: its forms in the order of their first bytes, each with where its last part ends. */
    static final class Formula {
        static final int WHOLE = 32;
        static final int REAL = 33;
        static final int SIGN = 34;
        static final int LIST = '[' * 16;

        private final byte[] text;
        private final int[] op;
        private final int[] place;
        private final int[] end;
        private final long[] word;
        final int names;

        Formula(byte[] text, int[] op, int[] place, int[] end, long[] word, int names) {
            this.text = text;
            this.op = op;
            this.place = place;
            this.end = end;
            this.word = word;
            this.names = names;
        }

        int length() {
            return text.length;
        }

        int letter(int i) {
            return i >= 0 && i < text.length ? text[i] : NONE;
        }

        /** Below 32 the cell named, 32 to 34 a leaf, else letter by 16 and digit. */
        int op(int node) {
            return node >= 0 && node < op.length ? op[node] : WHOLE;
        }

        int place(int node) {
            return node >= 0 && node < place.length ? place[node] : 0;
        }

        int end(int node) {
            return node >= 0 && node < end.length ? end[node] : node + 1;
        }

        long word(int node) {
            return node >= 0 && node < word.length ? word[node] : 0L;
        }

        /** The first of the forms that an op wants; between an f and that stands the op which it uses. */
        int firstPart(int node) {
            return (op(node) >> 4) == 'f' ? node + 2 : node + 1;
        }
    }

    /** Reads a text from the left, into rows that are used again for the next one. */
    static final class Reader {
        private static final int END = -1;
        private static final int NESTED = 10;
        private static final int WHOLE_DIGITS = 18;
        private static final int REAL_DIGITS = 15;

        private final int[] op = new int[TAPE];
        private final int[] place = new int[TAPE];
        private final int[] end = new int[TAPE];
        private final long[] word = new long[TAPE];
        private byte[] text = new byte[0];
        private int length;
        private int at;
        private int nodes;
        private int names;

        /** 0, or 1 more than the first place at which the text can be no formula. */
        int read(byte[] tape, int taped) {
            text = tape;
            length = Math.max(0, Math.min(taped, tape.length));
            at = 0;
            nodes = 0;
            names = 0;
            if (!form(0)) {
                return at + 1;
            }
            skipBlanks();
            return at < length ? at + 1 : 0;
        }

        Formula made() {
            int size = Math.max(0, Math.min(nodes, TAPE));
            return new Formula(Arrays.copyOf(text, length), Arrays.copyOf(op, size),
                Arrays.copyOf(place, size), Arrays.copyOf(end, size), Arrays.copyOf(word, size), names);
        }

        private int ahead() {
            return at >= 0 && at < length && at < text.length ? text[at] : END;
        }

        private boolean digitAhead() {
            return ahead() >= '0' && ahead() <= '9';
        }

        private void skipBlanks() {
            while (at < length && ahead() == ' ') {
                at++;
            }
        }

        private int add(int code, int from, long content) {
            int node = nodes;
            if (node >= 0 && node < TAPE) {
                op[node] = code;
                place[node] = from;
                end[node] = node + 1;
                word[node] = content;
                nodes++;
            }
            return node;
        }

        private void endPart(int node) {
            if (node >= 0 && node < TAPE) {
                end[node] = nodes;
            }
        }

        private boolean form(int within) {
            skipBlanks();
            if (digitAhead()) {
                return digits();
            }
            if (ahead() == '\'') {
                return sign();
            }
            if (ahead() >= 'A' && ahead() <= 'D') {
                return cellName();
            }
            if (within >= NESTED) {
                return false;
            }
            return ahead() == '[' ? list(within) : operation(within);
        }

        private boolean digits() {
            int from = at;
            int count = 0;
            long size = 0L;
            while (count < WHOLE_DIGITS && digitAhead()) {
                size = size * 10 + ahead() - '0';
                count++;
                at++;
            }
            if (digitAhead()) {
                return false;
            }
            if (ahead() == '.' && count < REAL_DIGITS) {
                return fraction(from, count, size);
            }
            add(Formula.WHOLE, from, size);
            return true;
        }

        private boolean fraction(int from, int digitsAhead, long size) {
            int count = digitsAhead;
            long all = size;
            long scale = 1L;
            at++;
            while (count < REAL_DIGITS && digitAhead()) {
                all = all * 10 + ahead() - '0';
                scale = scale * 10;
                count++;
                at++;
            }
            if (count == digitsAhead || digitAhead()) {
                return false;
            }
            add(Formula.REAL, from, Real.quotient(Real.nearest(all), Real.nearest(scale)));
            return true;
        }

        private boolean sign() {
            int from = at;
            at++;
            if (ahead() == END) {
                return false;
            }
            add(Formula.SIGN, from, ahead());
            at++;
            return true;
        }

        private boolean cellName() {
            int from = at;
            int letter = ahead() - 'A';
            at++;
            if (ahead() < '0' || ahead() > '7') {
                return false;
            }
            int cell = letter * 8 + ahead() - '0';
            at++;
            add(cell, from, 0L);
            names = names | (1 << cell);
            return true;
        }

        private boolean list(int within) {
            int node = add(Formula.LIST, at, 0L);
            at++;
            for (int i = 0; i <= TAPE; i++) {
                skipBlanks();
                if (ahead() == ']') {
                    at++;
                    endPart(node);
                    return true;
                }
                if (!form(within + 1)) {
                    return false;
                }
            }
            return false;
        }

        private boolean operation(int within) {
            int node = nodes;
            int letter = ahead();
            int wanted = opAhead();
            if (wanted == 0 || (letter == 'f' && !usedOp())) {
                return false;
            }
            for (int i = 0; i < wanted; i++) {
                if (!form(within + 1)) {
                    return false;
                }
            }
            endPart(node);
            return true;
        }

        private boolean usedOp() {
            skipBlanks();
            return (ahead() == 'a' || ahead() == 'c') && opAhead() > 0;
        }

        /** Reads an op's letter and digit: how many forms it wants, 0 if there is none such. */
        private int opAhead() {
            int from = at;
            int letter = ahead();
            if (wants(letter, 0) == 0) {
                return 0;
            }
            at++;
            int digit = ahead() - '0';
            int wanted = wants(letter, digit);
            if (wanted > 0) {
                at++;
                add(letter * 16 + digit, from, 0L);
            }
            return wanted;
        }

        private static int wants(int letter, int digit) {
            if (digit < 0 || digit > 9) {
                return 0;
            }
            switch (letter) {
                case 'a':
                    return digit <= 6 ? 2 : 0;
                case 'c':
                    return digit <= 2 ? 2 : 0;
                case 'n':
                    return digit <= 7 ? 1 : 0;
                case 's':
                    return digit == 5 ? 2 : 1;
                case 'i':
                    return digit == 4 ? 3 : digit <= 5 ? 2 : 0;
                case 'f':
                    return digit == 3 ? 1 : digit <= 2 ? 2 : 0;
                case 'r':
                    return digit <= 1 ? digit + 1 : 0;
                case 'q':
                    return digit <= 2 ? 3 - digit : 0;
                default:
                    return 0;
            }
        }
    }

    /** The cells: their formulas, what they need, and the values that are remembered. */
    static final class Cells {
        static final int COUNT = 32;

        private final Formula[] formulas = new Formula[COUNT];
        private final Value[] remembered = new Value[COUNT];
        private final int[] reach = new int[COUNT];
        private final int[] times = new int[COUNT];

        static boolean named(int cell) {
            return cell >= 0 && cell < COUNT;
        }

        Formula at(int cell) {
            return named(cell) ? formulas[cell] : null;
        }

        Value remembered(int cell) {
            return named(cell) ? remembered[cell] : null;
        }

        int times(int cell) {
            return named(cell) ? times[cell] : 0;
        }

        boolean names(int cell, int other) {
            Formula one = at(cell);
            return one != null && named(other) && (one.names >>> other & 1) == 1;
        }

        boolean reaches(int cell, int other) {
            return named(cell) && named(other) && (reach[cell] >>> other & 1) == 1;
        }

        boolean onLoop(int cell) {
            return named(cell) && (reach[cell] >>> cell & 1) == 1;
        }

        /** Whether a cell has to be worked out before its value is known. */
        boolean open(int cell) {
            return at(cell) != null && !onLoop(cell) && remembered(cell) == null;
        }

        void remember(int cell, Value value) {
            if (named(cell)) {
                remembered[cell] = value;
                times[cell]++;
            }
        }

        void put(int cell, Formula formula) {
            if (!named(cell)) {
                return;
            }
            formulas[cell] = formula;
            for (int each = 0; each < COUNT; each++) {
                if (each == cell || reaches(each, cell)) {
                    remembered[each] = null;
                }
            }
            link();
        }

        private void link() {
            for (int cell = 0; cell < COUNT; cell++) {
                Formula one = formulas[cell];
                reach[cell] = one == null ? 0 : one.names;
            }
            for (int between = 0; between < COUNT; between++) {
                for (int cell = 0; cell < COUNT; cell++) {
                    if (reaches(cell, between)) {
                        reach[cell] = reach[cell] | reach[between];
                    }
                }
            }
        }
    }

    /** The latest changes, in a ring: those that stand, and behind them those that were undone. */
    static final class Changes {
        private static final int KEPT = 50;

        private final int[] cells = new int[KEPT];
        private final Formula[] before = new Formula[KEPT];
        private final Formula[] after = new Formula[KEPT];
        private int next;
        private int standing;
        private int undone;
        private int current;

        void record(int cell, Formula was, Formula is) {
            if (next >= 0 && next < KEPT) {
                cells[next] = cell;
                before[next] = was;
                after[next] = is;
            }
            next = (next + 1) % KEPT;
            standing = Math.min(KEPT, standing + 1);
            undone = 0;
        }

        boolean back() {
            if (standing == 0) {
                return false;
            }
            next = (next + KEPT - 1) % KEPT;
            current = next;
            standing--;
            undone++;
            return true;
        }

        boolean forth() {
            if (undone == 0) {
                return false;
            }
            current = next;
            next = (next + 1) % KEPT;
            standing++;
            undone--;
            return true;
        }

        int cell() {
            return current >= 0 && current < KEPT ? cells[current] : 0;
        }

        Formula before() {
            return current >= 0 && current < KEPT ? before[current] : null;
        }

        Formula after() {
            return current >= 0 && current < KEPT ? after[current] : null;
        }
    }

    /**
     * Works a cell out, and the cells that it needs. What is open stands in rows here and not in open calls:
     * cells that need one another would else go too many calls deep.
     */
    static final class Worker {
        private static final int MOST_STEPS = 2000;
        private static final int MOST_IN_ALL = 40000;
        private static final int FORMS = 400;
        private static final int VALUES = 2600;
        private static final int WHOLE_CELL = -1;
        private static final int CHOICE = 'q' * 16;
        private static final int CATCH = CHOICE + 1;
        private static final int KIND_OF = CHOICE + 2;
        private static final int FOLD = 'f' * 16;
        private static final int TABLE = FOLD + 2;
        private static final int NEIGHBOURS = FOLD + 3;

        private final Cells cells;
        private final int[] cellOf = new int[FORMS];
        private final int[] nodeOf = new int[FORMS];
        private final int[] nextOf = new int[FORMS];
        private final int[] baseOf = new int[FORMS];
        private final Value[] values = new Value[VALUES];
        private final Value nothing = Value.none();
        private int open;
        private int height;
        private int made;
        private int madeInAll;

        Worker(Cells cells) {
            this.cells = cells;
        }

        int made() {
            return made;
        }

        int madeInAll() {
            return madeInAll;
        }

        boolean spent() {
            return madeInAll >= MOST_IN_ALL;
        }

        boolean busy() {
            return open > 0 && !stopped();
        }

        void start(int cell) {
            made = 0;
            open = 0;
            height = 0;
            fetch(cell);
        }

        Value answer(int cell) {
            return stopped() ? Value.failure(Value.STEPS, cell, 0) : value(0);
        }

        /** Goes on by one part of the innermost form that is open. */
        void turn() {
            int inner = open - 1;
            if (inner < 0 || inner >= FORMS) {
                return;
            }
            int cell = cellOf[inner];
            Formula formula = cells.at(cell);
            if (formula == null) {
                open = inner;
                return;
            }
            int node = nodeOf[inner];
            if (node == WHOLE_CELL) {
                turnCell(inner, formula);
                return;
            }
            int op = formula.op(node);
            if (op >> 4 == 'q') {
                choose(inner, formula);
                return;
            }
            int next = nextOf[inner];
            if (height > baseOf[inner] && value(height - 1).sort == Value.FAILURE) {
                close(inner, value(height - 1));
            } else if (next < formula.end(node)) {
                nextOf[inner] = formula.end(next);
                begin(formula, next);
            } else if (step(parts(inner))) {
                Value result = op == TABLE ? table(inner, formula)
                    : op >> 4 == 'f' ? fold(inner, formula) : plain(inner, op);
                finish(inner, result.placed(cell, formula.place(node)));
            }
        }

        private boolean stopped() {
            return made > MOST_STEPS;
        }

        /** Makes steps; false if the working out stops by them. */
        private boolean step(int count) {
            made += count;
            madeInAll += count;
            return !stopped();
        }

        private Value value(int i) {
            Value one = i >= 0 && i < height && i < VALUES ? values[i] : null;
            return one == null ? nothing : one;
        }

        private void push(Value value) {
            if (height >= 0 && height < VALUES) {
                values[height] = value;
                height++;
            }
        }

        private void opened(int cell, int node, int next) {
            if (open >= 0 && open < FORMS) {
                cellOf[open] = cell;
                nodeOf[open] = node;
                nextOf[open] = next;
                baseOf[open] = height;
                open++;
            }
        }

        private void close(int inner, Value result) {
            if (inner >= 0 && inner < FORMS) {
                height = baseOf[inner];
                open = inner;
                push(result);
            }
        }

        private void finish(int inner, Value result) {
            if (result.sort == Value.FAILURE || step(result.in)) {
                close(inner, result);
            }
        }

        /** How many values are in all parts of a form. */
        private int parts(int inner) {
            int count = 0;
            int from = inner >= 0 && inner < FORMS ? baseOf[inner] : height;
            for (int i = from; i < height; i++) {
                count += value(i).in;
            }
            return count;
        }

        private void fetch(int cell) {
            Value known = cells.remembered(cell);
            if (cells.at(cell) == null) {
                push(nothing);
            } else if (cells.onLoop(cell)) {
                push(Value.failure(Value.LOOP, cell, 0));
            } else if (known != null) {
                push(known);
            } else {
                opened(cell, WHOLE_CELL, 0);
            }
        }

        private void turnCell(int inner, Formula formula) {
            if (inner < 0 || inner >= FORMS) {
                return;
            }
            if (height == baseOf[inner]) {
                begin(formula, 0);
                return;
            }
            cells.remember(cellOf[inner], value(height - 1));
            open = inner;
        }

        /** Begins a form of the innermost cell that is open. */
        private void begin(Formula formula, int node) {
            int inner = open - 1;
            if (inner < 0 || inner >= FORMS || !step(1)) {
                return;
            }
            int op = formula.op(node);
            if (op < Cells.COUNT) {
                fetch(op);
            } else if (op > Formula.SIGN) {
                opened(cellOf[inner], node, formula.firstPart(node));
            } else if (step(1)) {
                push(Value.leaf(op - Formula.WHOLE, formula.word(node)));
            }
        }

        /** The ops that do not take all their forms: what comes next depends on how far they are. */
        private void choose(int inner, Formula formula) {
            if (inner < 0 || inner >= FORMS) {
                return;
            }
            int node = nodeOf[inner];
            int next = nextOf[inner];
            int op = formula.op(node);
            Value latest = value(height - 1);
            if (next == node + 1) {
                nextOf[inner] = formula.end(next);
                begin(formula, next);
            } else if (op == KIND_OF) {
                finish(inner, Value.whole(latest.sort == Value.FAILURE ? latest.word : 0L));
            } else if (next == formula.end(node)) {
                close(inner, latest);
            } else if (op == CATCH && latest.sort == Value.FAILURE) {
                instead(inner, formula, next);
            } else if (op == CATCH || latest.sort == Value.FAILURE) {
                close(inner, latest);
            } else if (latest.sort != Value.WHOLE) {
                close(inner, Value.failure(Value.KIND, cellOf[inner], formula.place(node)));
            } else {
                instead(inner, formula, latest.word != 0L ? next : formula.end(next));
            }
        }

        /** Begins one of the later forms, whose value will be that of the whole. */
        private void instead(int inner, Formula formula, int node) {
            if (inner >= 0 && inner < FORMS) {
                height = baseOf[inner];
                nextOf[inner] = formula.end(nodeOf[inner]);
                begin(formula, node);
            }
        }

        private Value plain(int inner, int op) {
            int base = inner >= 0 && inner < FORMS ? baseOf[inner] : height;
            Value first = value(base);
            Value second = value(base + 1);
            int digit = op & 15;
            switch (op >> 4) {
                case 'a':
                case 'c':
                    return Pairs.of(op, first, second);
                case 'n':
                    return Singles.of(digit, first);
                case 's':
                    return Shapes.shaped(digit, first, second);
                case 'i':
                    return Shapes.indexed(digit, first, second, value(base + 2));
                case 'r':
                    return Shapes.repeated(digit, first, second);
                default:
                    return listed(base);
            }
        }

        private Value listed(int base) {
            int count = Math.max(0, height - base);
            Value[] items = new Value[count];
            for (int i = 0; i < items.length; i++) {
                items[i] = value(base + i);
            }
            return Value.array(items);
        }

        /** f0, f1 and f3: one use of the op behind the other. */
        private Value fold(int inner, Formula formula) {
            if (inner < 0 || inner >= FORMS) {
                return Value.found(Value.KIND);
            }
            int node = nodeOf[inner];
            int op = formula.op(node);
            boolean pairs = op == NEIGHBOURS;
            Value so = value(baseOf[inner]);
            Value list = pairs ? so : value(baseOf[inner] + 1);
            if (list.sort != Value.ARRAY) {
                return Value.found(Value.KIND);
            }
            int uses = pairs ? Math.max(0, list.count() - 1) : list.count();
            Value[] all = new Value[uses];
            for (int i = 0; i < all.length; i++) {
                so = pairs ? use(cellOf[inner], formula, node + 1, list.item(i), list.item(i + 1))
                    : use(cellOf[inner], formula, node + 1, so, list.item(i));
                if (so.sort == Value.FAILURE) {
                    return so;
                }
                all[i] = so;
            }
            return op == FOLD ? so : Value.array(all);
        }

        /** f2: a row of uses for each value of the first array. */
        private Value table(int inner, Formula formula) {
            if (inner < 0 || inner >= FORMS) {
                return Value.found(Value.KIND);
            }
            int used = nodeOf[inner] + 1;
            Value first = value(baseOf[inner]);
            Value second = value(baseOf[inner] + 1);
            if (first.sort != Value.ARRAY || second.sort != Value.ARRAY) {
                return Value.found(Value.KIND);
            }
            Value[] rows = new Value[first.count()];
            for (int i = 0; i < rows.length; i++) {
                Value[] row = new Value[second.count()];
                for (int k = 0; k < row.length; k++) {
                    Value one = use(cellOf[inner], formula, used, first.item(i), second.item(k));
                    if (one.sort == Value.FAILURE) {
                        return one;
                    }
                    row[k] = one;
                }
                rows[i] = Value.array(row);
                if (rows[i].sort == Value.FAILURE) {
                    return rows[i];
                }
            }
            return Value.array(rows);
        }

        /** One use of an op by an f; what it answers is of no account where the working out stops by it. */
        private Value use(int cell, Formula formula, int node, Value x, Value y) {
            if (!step(1) || !step(x.in + y.in)) {
                return Value.found(Value.STEPS);
            }
            Value result = Pairs.of(formula.op(node), x, y).placed(cell, formula.place(node));
            return result.sort == Value.FAILURE || step(result.in) ? result : Value.found(Value.STEPS);
        }
    }

    /** The two-sided ops: on leaves, and on arrays value by value. */
    static final class Pairs {
        private static final int SUM = 'a' * 16;
        private static final int DIFFERENCE = SUM + 1;
        private static final int PRODUCT = SUM + 2;
        private static final int QUOTIENT = SUM + 3;
        private static final int REST = SUM + 4;
        private static final int LESSER = SUM + 5;
        private static final int SAME = 'c' * 16;
        private static final int LESS = SAME + 1;

        private Pairs() {
        }

        private static Value of(int op, Value x, Value y) {
            if (x.sort == Value.ARRAY || y.sort == Value.ARRAY) {
                return arrays(op, x, y);
            }
            if (op >= SAME) {
                return compared(op, x, y);
            }
            if (x.sort == Value.SIGN || y.sort == Value.SIGN) {
                return Value.found(Value.KIND);
            }
            if (x.sort == Value.WHOLE && y.sort == Value.WHOLE) {
                return wholes(op, x.word, y.word);
            }
            long a = x.sort == Value.WHOLE ? Real.nearest(x.word) : x.word;
            long b = y.sort == Value.WHOLE ? Real.nearest(y.word) : y.word;
            switch (op) {
                case SUM:
                    return Value.leaf(Value.REAL, Real.sum(a, b));
                case DIFFERENCE:
                    return Value.leaf(Value.REAL, Real.sum(a, Real.negated(b)));
                case PRODUCT:
                    return Value.leaf(Value.REAL, Real.product(a, b));
                case QUOTIENT:
                    return Value.leaf(Value.REAL, Real.quotient(a, b));
                case REST:
                    return Value.leaf(Value.REAL, Real.rest(a, b));
                case LESSER:
                    return Value.leaf(Value.REAL, Real.lesser(a, b));
                default:
                    return Value.leaf(Value.REAL, Real.greater(a, b));
            }
        }

        private static Value arrays(int op, Value x, Value y) {
            boolean left = x.sort == Value.ARRAY;
            boolean right = y.sort == Value.ARRAY;
            if (left && right && x.count() != y.count()) {
                return Value.found(Value.LENGTH);
            }
            Value[] made = new Value[left ? x.count() : y.count()];
            for (int i = 0; i < made.length; i++) {
                Value one = of(op, left ? x.item(i) : x, right ? y.item(i) : y);
                if (one.sort == Value.FAILURE) {
                    return one;
                }
                made[i] = one;
            }
            return Value.array(made);
        }

        /** A comparison of leaves: by their order, but a whole and a real of one number are the same. */
        private static Value compared(int op, Value x, Value y) {
            int order;
            if ((x.sort == Value.SIGN) != (y.sort == Value.SIGN)) {
                return Value.found(Value.KIND);
            } else if (x.sort == Value.REAL && y.sort == Value.REAL) {
                order = Real.compare(x.word, y.word);
            } else if (y.sort == Value.REAL) {
                order = Real.mixed(x.word, y.word);
            } else if (x.sort == Value.REAL) {
                order = -Real.mixed(y.word, x.word);
            } else {
                order = Long.compare(x.word, y.word);
            }
            boolean holds = op == SAME ? order == 0 : op == LESS ? order < 0 : order <= 0;
            return Value.whole(holds ? 1L : 0L);
        }

        private static Value wholes(int op, long a, long b) {
            switch (op) {
                case SUM:
                    return Value.whole(a + b);
                case DIFFERENCE:
                    return Value.whole(a - b);
                case PRODUCT:
                    return Value.whole(a * b);
                case QUOTIENT:
                    return b == 0L ? Value.found(Value.ZERO) : Value.whole(a / b);
                case REST:
                    return b == 0L ? Value.found(Value.ZERO) : Value.whole(a % b);
                case LESSER:
                    return Value.whole(Math.min(a, b));
                default:
                    return Value.whole(Math.max(a, b));
            }
        }
    }

    /** The one-sided ops: on leaves, and on each value of an array. */
    static final class Singles {
        private static final int NEGATED = 0;
        private static final int UNSIGNED = 1;
        private static final int NOT = 2;
        private static final int FLOOR = 3;
        private static final int CAST = 4;
        private static final int NEAREST = 5;
        private static final int CODE = 6;

        private Singles() {
        }

        private static Value of(int digit, Value x) {
            switch (x.sort) {
                case Value.WHOLE:
                    return ofWhole(digit, x.word);
                case Value.REAL:
                    return ofReal(digit, x.word);
                case Value.SIGN:
                    return digit == NOT ? Value.whole(0L)
                        : digit == CODE ? Value.whole(x.word) : Value.found(Value.KIND);
                default:
                    break;
            }
            Value[] made = new Value[x.count()];
            for (int i = 0; i < made.length; i++) {
                Value one = of(digit, x.item(i));
                if (one.sort == Value.FAILURE) {
                    return one;
                }
                made[i] = one;
            }
            return Value.array(made);
        }

        private static Value ofWhole(int digit, long word) {
            switch (digit) {
                case NEGATED:
                    return Value.whole(0L - word);
                case UNSIGNED:
                    return Value.whole(Math.abs(word));
                case NOT:
                    return Value.whole(word == 0L ? 1L : 0L);
                case NEAREST:
                    return Value.leaf(Value.REAL, Real.nearest(word));
                case FLOOR:
                case CAST:
                case CODE:
                    return Value.found(Value.KIND);
                default:
                    return word >= LOWEST && word <= HIGHEST ? Value.leaf(Value.SIGN, word)
                        : Value.found(Value.INDEX);
            }
        }

        private static Value ofReal(int digit, long bits) {
            switch (digit) {
                case NEGATED:
                    return Value.leaf(Value.REAL, Real.negated(bits));
                case UNSIGNED:
                    return Value.leaf(Value.REAL, Real.unsigned(bits));
                case NOT:
                    return Value.whole(0L);
                case FLOOR:
                    return Value.leaf(Value.REAL, Real.floor(bits));
                case CAST:
                    return Value.whole(Real.cast(bits));
                default:
                    return Value.found(Value.KIND);
            }
        }
    }

    /** The ops on the shape of values: s, i and r. */
    static final class Shapes {
        private Shapes() {
        }

        private static Value shaped(int digit, Value x, Value y) {
            boolean isArray = x.sort == Value.ARRAY;
            switch (digit) {
                case 1:
                    return Value.whole(leaves(x));
                case 2:
                    return Value.whole(x.depth);
                case 3:
                    return flat(x);
                case 5:
                    return joined(x, y);
                case 6:
                    return Value.array(new Value[] {x});
                default:
                    break;
            }
            if (!isArray) {
                return Value.found(Value.KIND);
            }
            switch (digit) {
                case 0:
                    return Value.whole(x.count());
                case 4:
                    return turned(x);
                case 7:
                    return picked(x, ranked(x));
                case 8:
                    return numbers(ranked(x));
                default:
                    return distinct(x);
            }
        }

        private static int leaves(Value x) {
            if (x.sort != Value.ARRAY) {
                return 1;
            }
            int count = 0;
            for (int i = 0; i < x.count(); i++) {
                count += leaves(x.item(i));
            }
            return count;
        }

        private static Value flat(Value x) {
            int count = leaves(x);
            if (count < 0 || count > Value.WIDEST) {
                return Value.found(Value.SIZE);
            }
            Value[] row = new Value[count];
            gather(x, row, 0);
            return Value.array(row);
        }

        /** Puts the leaves in x into the row from this place on: the place behind them. */
        private static int gather(Value x, Value[] row, int from) {
            int at = from;
            if (x.sort != Value.ARRAY) {
                if (at >= 0 && at < row.length) {
                    row[at] = x;
                }
                return at + 1;
            }
            for (int i = 0; i < x.count(); i++) {
                at = gather(x.item(i), row, at);
            }
            return at;
        }

        private static Value turned(Value x) {
            Value[] made = new Value[x.count()];
            for (int i = 0; i < made.length; i++) {
                made[i] = x.item(made.length - 1 - i);
            }
            return Value.array(made);
        }

        private static Value joined(Value x, Value y) {
            int first = x.sort == Value.ARRAY ? x.count() : 1;
            int second = y.sort == Value.ARRAY ? y.count() : 1;
            Value[] made = new Value[first + second];
            for (int i = 0; i < made.length; i++) {
                made[i] = i < first ? x.item(i) : y.item(i - first);
            }
            return Value.array(made);
        }

        /** The numbers of the values in their order; like ones as they stand. */
        private static int[] ranked(Value x) {
            int[] order = new int[x.count()];
            for (int i = 1; i < order.length; i++) {
                int to = i;
                while (to > 0 && Value.compare(x.item(order[to - 1]), x.item(i)) > 0) {
                    order[to] = order[to - 1];
                    to--;
                }
                order[to] = i;
            }
            return order;
        }

        private static Value picked(Value x, int[] order) {
            Value[] made = new Value[order.length];
            for (int i = 0; i < made.length; i++) {
                made[i] = x.item(order[i]);
            }
            return Value.array(made);
        }

        private static Value numbers(int[] order) {
            Value[] made = new Value[order.length];
            for (int i = 0; i < made.length; i++) {
                made[i] = Value.whole(order[i]);
            }
            return Value.array(made);
        }

        private static Value distinct(Value x) {
            Value[] kept = new Value[x.count()];
            int count = 0;
            for (int i = 0; i < x.count(); i++) {
                if (firstLike(x, x.item(i)) == i && count < kept.length) {
                    kept[count] = x.item(i);
                    count++;
                }
            }
            Value[] made = new Value[count];
            for (int i = 0; i < made.length && i < kept.length; i++) {
                made[i] = kept[i];
            }
            return Value.array(made);
        }

        private static int firstLike(Value x, Value sought) {
            for (int i = 0; i < x.count(); i++) {
                if (Value.compare(x.item(i), sought) == 0) {
                    return i;
                }
            }
            return -1;
        }

        private static Value indexed(int digit, Value x, Value y, Value z) {
            if (x.sort != Value.ARRAY) {
                return Value.found(Value.KIND);
            }
            if (digit == 5) {
                return Value.whole(firstLike(x, y));
            }
            if (y.sort != Value.WHOLE) {
                return Value.found(Value.KIND);
            }
            long k = y.word;
            int count = x.count();
            switch (digit) {
                case 1:
                    return k > count || k < -count ? Value.found(Value.SIZE)
                        : k >= 0 ? part(x, 0, (int) k) : part(x, count + (int) k, count);
                case 2:
                    return k > count || k < -count ? part(x, 0, 0)
                        : k >= 0 ? part(x, (int) k, count) : part(x, 0, count + (int) k);
                case 3:
                    return moved(x, k);
                default:
                    break;
            }
            long place = k < 0 ? k + count : k;
            if (place < 0 || place >= count) {
                return Value.found(Value.INDEX);
            }
            return digit == 0 ? x.item((int) place) : replaced(x, (int) place, z);
        }

        /** The values of an array from one number on to another, which is not taken. */
        private static Value part(Value x, int from, int to) {
            Value[] made = new Value[Math.max(0, to - from)];
            for (int i = 0; i < made.length; i++) {
                made[i] = x.item(from + i);
            }
            return Value.array(made);
        }

        private static Value moved(Value x, long k) {
            int count = x.count();
            if (count == 0) {
                return x;
            }
            int by = (int) Math.floorMod(k, (long) count);
            Value[] made = new Value[count];
            for (int i = 0; i < made.length; i++) {
                made[i] = x.item((i + by) % count);
            }
            return Value.array(made);
        }

        private static Value replaced(Value x, int place, Value z) {
            Value[] made = new Value[x.count()];
            for (int i = 0; i < made.length; i++) {
                made[i] = i == place ? z : x.item(i);
            }
            return Value.array(made);
        }

        /** r0 and r1: so many values, the numbers from 0 or always the same one. */
        private static Value repeated(int digit, Value n, Value same) {
            if (n.sort != Value.WHOLE) {
                return Value.found(Value.KIND);
            }
            if (n.word < 0 || n.word > Value.WIDEST) {
                return Value.found(Value.SIZE);
            }
            Value[] made = new Value[(int) n.word];
            for (int i = 0; i < made.length; i++) {
                made[i] = digit == 0 ? Value.whole(i) : same;
            }
            return Value.array(made);
        }
    }

    /** What was written last. */
    static final class Paper {
        private static final int ROOM = 4500;
        private static final int DIGITS = 20;

        private final byte[] text = new byte[ROOM];
        private final byte[] digits = new byte[DIGITS];
        private int length;

        int length() {
            return length;
        }

        int letter(int i) {
            return i >= 0 && i < length && i < ROOM ? text[i] : NONE;
        }

        int show(Value value) {
            length = 0;
            write(value);
            return length;
        }

        private void put(int sign) {
            if (length >= 0 && length < ROOM) {
                text[length] = (byte) sign;
                length++;
            }
        }

        private void write(Value value) {
            switch (value.sort) {
                case Value.WHOLE:
                    writeWhole(value.word);
                    return;
                case Value.REAL:
                    writeReal(value.word);
                    return;
                case Value.SIGN:
                    put('\'');
                    put((int) value.word);
                    return;
                case Value.FAILURE:
                    put('!');
                    writeWhole(value.word);
                    return;
                default:
                    writeArray(value);
            }
        }

        private void writeArray(Value value) {
            put('[');
            for (int i = 0; i < value.count(); i++) {
                if (i > 0) {
                    put(' ');
                }
                write(value.item(i));
            }
            put(']');
        }

        /** Takes the digits below 0, where the lowest whole has room as well. */
        private void writeWhole(long word) {
            long rest = word < 0 ? word : -word;
            int from = DIGITS;
            do {
                from--;
                if (from >= 0) {
                    digits[from] = (byte) ('0' - rest % 10);
                }
                rest = rest / 10;
            } while (rest != 0 && from > 0);
            if (word < 0) {
                put('-');
            }
            for (int i = Math.max(0, from); i < DIGITS; i++) {
                put(digits[i]);
            }
        }

        private void writeReal(long bits) {
            put('#');
            for (int shift = 60; shift >= 0; shift -= 4) {
                int four = (int) (bits >>> shift) & 15;
                put(four < 10 ? '0' + four : 'a' + four - 10);
            }
        }
    }
}
