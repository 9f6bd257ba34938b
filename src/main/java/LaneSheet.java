import java.util.Arrays;
import java.util.NoSuchElementException;

/**
 * A sheet of cells in eleven columns and programs of macros that work on it. A text is cut into tokens, read once into
 * instructions, and these are worked on by a machine with stacks of its own, so that no run goes deep in Java's.
 */
public final class LaneSheet {
    public static final int NONE = -1;

    private static final int TAPE_MOST = 4000;
    private static final int FED_AT_ONCE = 20;
    private static final int NO_SUCH_LENGTH = -2;
    private static final int STEPS_MOST = 5000;
    private static final int RUN_PARAMETERS_MOST = 3;

    // TYPES, from the smallest number to the greatest, then the truth.
    private static final int I = 1;
    private static final int L = 2;
    private static final int F = 3;
    private static final int D = 4;
    private static final int T = 5;

    // What a cell or an element names, as cell() tells it: rows by lane, then boxes.
    private static final int ROW_D = 4;
    private static final int ROW_I = 9;
    private static final int ROW_J = 10;
    private static final int ROW_N = 11;
    private static final int ROW_S = 12;
    private static final int BOX = 13;
    private static final int NOTE = 14;
    private static final int SEAL = 15;

    private static final int COLUMN_D = 3;
    private static final int COLUMN_H = 7;
    private static final int COLUMN_I = 8;
    private static final int COLUMN_J = 9;
    private static final int COLUMN_K = 10;
    private static final int CELLS = 88;

    // FAULTS of a run.
    private static final int MISSING = 1;
    private static final int PLACE = 2;
    private static final int COUNT = 3;
    private static final int KIND = 4;
    private static final int ELEMENT = 5;
    private static final int ZERO = 6;
    private static final int OWN = 7;
    private static final int DEEP = 8;
    private static final int ANY = 9;

    // What run() answers.
    private static final int ENDED = 0;
    private static final int FAULTED = 1;
    private static final int CUT = 2;
    private static final int FULL = 3;

    private static final int NAMES_MOST = 12;
    private static final int CALLS_MOST = 12;

    private final byte[] tape;
    private int tapeSize;
    private final Tokens tokens;
    private final Code code;
    private final Statements statements;
    private final Heap heap;
    private final Report report;
    private final Machine machine;

    public LaneSheet() {
        tape = new byte[TAPE_MOST];
        tokens = new Tokens();
        code = new Code();
        statements = new Statements(tokens, code);
        heap = new Heap();
        report = new Report();
        machine = new Machine(code, heap, report);
    }

    public int feed(int a, int b, int c, int d, int e) {
        if (tapeSize + FED_AT_ONCE > TAPE_MOST) {
            return NONE;
        }
        append(a);
        append(b);
        append(c);
        append(d);
        append(e);
        return tapeSize;
    }

    private void append(int four) {
        for (int shift = 24; shift >= 0; shift -= 8) {
            if (tapeSize < tape.length) {
                tape[tapeSize] = (byte) (four >> shift);
                tapeSize++;
            }
        }
    }

    public int compile(int n) {
        if (n < 0 || n > tapeSize) {
            return NO_SUCH_LENGTH;
        }
        tokens.load(tape, n);
        tapeSize = 0;
        code.forget();
        try {
            tokens.cut();
            statements.readMacro();
            for (int turn = 0; turn < Tokens.MOST && !tokens.is(Tokens.END); turn++) {
                statements.readMacro();
            }
        } catch (IllegalStateException textFault) {
            code.forget();
            return NONE;
        }
        return code.macros;
    }

    public int fault(int what) {
        if (what == 0) {
            return tokens.faultKind;
        }
        return what == 1 ? tokens.faultPlace : NONE;
    }

    public int run(int macro, int steps, long a, long b, long c) {
        if (macro < 0 || macro >= code.macros || steps < 1 || steps > STEPS_MOST) {
            return NONE;
        }
        if (code.parametersOf(macro) > RUN_PARAMETERS_MOST) {
            return NONE;
        }
        machine.begin(macro, steps);
        machine.handOver(0, a);
        machine.handOver(1, b);
        machine.handOver(2, c);
        return machine.work();
    }

    public long result() {
        return report.returned;
    }

    public int about(int what) {
        switch (what) {
            case 0: return report.answer;
            case 1: return report.faultKind;
            case 2: return report.faultPlace;
            case 3: return report.faultNumber;
            case 4: return report.steps;
            case 5: return heap.madeInRun;
            case 6: return report.traced;
            case 7: return report.printed;
            case 8: return report.stepsInAll;
            case 9: return heap.madeInAll;
            case 10: return report.faultsInAll;
            default: return NONE;
        }
    }

    public int trace(int i) throws NoSuchElementException {
        if (i < 0 || i >= report.traced || i >= report.traceMacros.length) {
            throw new NoSuchElementException();
        }
        return report.traceMacros[i];
    }

    public long out(int i, int what) throws NoSuchElementException {
        if (i < 0 || i >= report.printed || i >= Report.SHOWN_MOST || what < 0 || what > 1) {
            throw new NoSuchElementException();
        }
        return what == 0 ? report.printedTypes[i] : report.printedValues[i];
    }

    public int cell(int c, int what) {
        if (c < 0 || c >= CELLS || what < 0 || what > 2) {
            return NONE;
        }
        int thing = heap.namedBy(c);
        if (what == 0) {
            return heap.kindOf(thing);
        }
        if (thing == Heap.NOTHING) {
            return NONE;
        }
        return what == 1 ? heap.rowSize(thing) : heap.lowestNaming(thing);
    }

    public long element(int c, int i) throws NoSuchElementException {
        int thing = heap.namedBy(c);
        if (!heap.hasPlace(thing, i)) {
            throw new NoSuchElementException();
        }
        return heap.shown(thing, i);
    }

    public long within(int c, int i, int j) throws NoSuchElementException {
        int inner = heap.innerThing(heap.namedBy(c), i);
        if (!heap.hasPlace(inner, j)) {
            throw new NoSuchElementException();
        }
        return heap.get(inner, j);
    }

    public void clear() {
        heap.emptyCells();
    }

    /**
     * Doubles as their 64 bits and floats as their 32 (in a long, with sign), worked on by whole numbers alone: Java's
     * own operations could answer nan, and its functions on bits are not to be had.
     */
    private static final class Soft {
        static final long SIGN = 0x8000000000000000L;
        static final long INFINITE = 0x7ff0000000000000L;
        static final long NAN = 0x7ff8000000000000L;
        static final long ONE = 0x3ff0000000000000L;
        static final long SINGLE_SIGN = 0xffffffff80000000L;
        static final long SINGLE_INFINITE = 0x7f800000L;
        static final long SINGLE_NAN = 0x7fc00000L;
        static final int TO_EVEN = 0;
        static final int DOWNWARDS = 1;
        static final int UPWARDS = 2;
        static final int HALF_UP = 3;
        private static final long FRACTION = 0x000fffffffffffffL;
        private static final long HIDDEN = 0x0010000000000000L;
        private static final int FRACTION_BITS = 52;
        private static final int BIAS = 1023;
        private static final int UNIT = BIAS + FRACTION_BITS;
        private static final long SINGLE_FRACTION = 0x7fffffL;
        private static final long SINGLE_HIDDEN = 0x800000L;
        private static final long SINGLE_SIZE = 0x7fffffffL;
        private static final int SINGLE_FRACTION_BITS = 23;
        private static final int SINGLE_BIAS = 127;
        private static final int SINGLE_UNIT = SINGLE_BIAS + SINGLE_FRACTION_BITS;
        // Far beyond what takes every double to 0 or to the infinities, and far from where an int goes round.
        private static final int SCALE_MOST = 5000;

        private Soft() {
        }

        static boolean isNan(long x) {
            return (x & ~SIGN) > INFINITE;
        }

        static boolean isInfinite(long x) {
            return (x & ~SIGN) == INFINITE;
        }

        static boolean isZero(long x) {
            return (x & ~SIGN) == 0;
        }

        static boolean isSingleNan(long x) {
            return (x & SINGLE_SIZE) > SINGLE_INFINITE;
        }

        private static int field(long x) {
            return (int) (x >>> FRACTION_BITS) & 0x7ff;
        }

        private static int singleField(long x) {
            return (int) (x >>> SINGLE_FRACTION_BITS) & 0xff;
        }

        /** Of a finite number but 0: 53 bits, of which the highest is 1; times 2 to exponentOf it is the number. */
        static long significandOf(long x) {
            long fraction = x & FRACTION;
            boolean normal = (x & ~SIGN) >= HIDDEN;
            return normal ? fraction | HIDDEN : fraction << (Long.numberOfLeadingZeros(fraction) - 11);
        }

        static int exponentOf(long x) {
            long size = x & ~SIGN;
            boolean normal = size >= HIDDEN;
            return (normal ? (int) (size >>> FRACTION_BITS) : 12 - Long.numberOfLeadingZeros(size)) - UNIT;
        }

        /**
         * The double or float nearest to significand times 2 to exponent, a half to even; the significand's lowest bit
         * may stand for all that is behind it.
         */
        static long rounded(boolean single, long sign, int exponent, long significand) {
            int fractionBits = single ? SINGLE_FRACTION_BITS : FRACTION_BITS;
            int bias = single ? SINGLE_BIAS : BIAS;
            long signBits = sign & (single ? SINGLE_SIGN : SIGN);
            if (significand <= 0) {
                return signBits;
            }
            int shift = Long.numberOfLeadingZeros(significand) - 1;
            long full = significand << shift;
            int biased = exponent - shift + 62 + bias;
            if (biased > 2 * bias) {
                return signBits | ((2 * bias + 1L) << fractionBits);
            }
            int drop = 62 - fractionBits + (biased < 1 ? 1 - biased : 0);
            if (drop > 63) {
                return signBits;
            }
            long kept = full >>> drop;
            long rest = full & ((1L << drop) - 1);
            long half = 1L << (drop - 1);
            if (rest > half || (rest == half && (kept & 1) == 1)) {
                kept++;
            }
            return signBits | (biased < 1 ? kept : ((biased - 1L) << fractionBits) + kept);
        }

        /** The sign bits that rounded() takes. */
        private static long signOf(long x) {
            return x < 0 ? -1 : 0;
        }

        static long ofLong(boolean single, long x) {
            if (x == Long.MIN_VALUE) {
                return rounded(single, -1, 1, 1L << 62);
            }
            return rounded(single, signOf(x), 0, x < 0 ? -x : x);
        }

        static long ofSingle(long x) {
            long fraction = x & SINGLE_FRACTION;
            int field = singleField(x);
            if (field == 0xff) {
                return fraction != 0 ? NAN : (x & SIGN) | INFINITE;
            }
            return field == 0
                ? rounded(false, signOf(x), 1 - SINGLE_UNIT, fraction)
                : rounded(false, signOf(x), field - SINGLE_UNIT, fraction | SINGLE_HIDDEN);
        }

        static long toSingle(long x) {
            if (isNan(x)) {
                return SINGLE_NAN;
            }
            long sign = signOf(x) & SINGLE_SIGN;
            if (isInfinite(x)) {
                return sign | SINGLE_INFINITE;
            }
            return isZero(x) ? sign : rounded(true, signOf(x), exponentOf(x), significandOf(x));
        }

        /** Cut towards 0, the ends of the longs beyond them, 0 of nan. */
        static long toLong(long x) {
            if (isNan(x) || isZero(x)) {
                return 0;
            }
            int exponent = field(x) - UNIT;
            if (exponent > 10) {
                return x < 0 ? Long.MIN_VALUE : Long.MAX_VALUE;
            }
            if (exponent < -FRACTION_BITS) {
                return 0;
            }
            long significand = significandOf(x);
            long size = exponent < 0 ? significand >>> -exponent : significand << exponent;
            return x < 0 ? -size : size;
        }

        /** The one nan for all that are nan by their bits. */
        static long ofBits(long bits) {
            return isNan(bits) ? NAN : bits;
        }

        static long singleOfBits(long bits) {
            return isSingleNan(bits) ? SINGLE_NAN : (int) bits;
        }

        static long negate(long x) {
            return isNan(x) ? NAN : x ^ SIGN;
        }

        static long singleNegate(long x) {
            return isSingleNan(x) ? SINGLE_NAN : x ^ SINGLE_SIGN;
        }

        static long add(long x, long y) {
            if (isNan(x) || isNan(y)) {
                return NAN;
            }
            if (isInfinite(x)) {
                return isInfinite(y) && x != y ? NAN : x;
            }
            if (isInfinite(y)) {
                return y;
            }
            boolean swap = (x & ~SIGN) < (y & ~SIGN);
            long great = swap ? y : x;
            long small = swap ? x : y;
            int exponent = Math.max(field(great), 1);
            int apart = exponent - Math.max(field(small), 1);
            long left = placed(great, 0);
            long right = placed(small, apart);
            if ((x ^ y) < 0) {
                right = -right;
                if (left + right == 0) {
                    return 0;
                }
            }
            return rounded(false, signOf(great), exponent - UNIT - 9, left + right);
        }

        /** The bits of a summand with nine behind them, shifted right; the lowest is 1 if anything was lost. */
        private static long placed(long x, int by) {
            long bits = ((x & FRACTION) | ((x & ~SIGN) >= HIDDEN ? HIDDEN : 0)) << 9;
            if (by > 62) {
                return bits != 0 ? 1 : 0;
            }
            long lost = bits & ((1L << by) - 1);
            return (bits >>> by) | (lost != 0 ? 1 : 0);
        }

        static long multiply(long x, long y) {
            if (isNan(x) || isNan(y)) {
                return NAN;
            }
            long sign = (x ^ y) & SIGN;
            if (isInfinite(x) || isInfinite(y)) {
                return isZero(x) || isZero(y) ? NAN : sign | INFINITE;
            }
            if (isZero(x) || isZero(y)) {
                return sign;
            }
            long left = significandOf(x) << 10;
            long right = significandOf(y) << 10;
            long jam = left * right != 0 ? 1 : 0;
            return rounded(false, sign, exponentOf(x) + exponentOf(y) - 20 + 64, highProduct(left, right) | jam);
        }

        /** The upper 64 bits of the product of two numbers that are not below 0. */
        static long highProduct(long x, long y) {
            long mask = 0xffffffffL;
            long x0 = x & mask;
            long x1 = x >>> 32;
            long y0 = y & mask;
            long y1 = y >>> 32;
            long middle = x1 * y0 + ((x0 * y0) >>> 32);
            long other = x0 * y1 + (middle & mask);
            return x1 * y1 + (middle >>> 32) + (other >>> 32);
        }

        static long divide(long x, long y) {
            if (isNan(x) || isNan(y) || (isInfinite(x) && isInfinite(y)) || (isZero(x) && isZero(y))) {
                return NAN;
            }
            long sign = (x ^ y) & SIGN;
            if (isInfinite(x) || isZero(y)) {
                return sign | INFINITE;
            }
            if (isZero(x) || isInfinite(y)) {
                return sign;
            }
            long divisor = significandOf(y);
            if (divisor == 0) {
                return NAN;
            }
            long quotient = significandOf(x) / divisor;
            long rest = significandOf(x) % divisor;
            for (int turn = 0; turn < 6; turn++) {
                rest <<= 10;
                quotient = (quotient << 10) | (rest / divisor);
                rest %= divisor;
            }
            return rounded(false, sign, exponentOf(x) - exponentOf(y) - 60, quotient | (rest != 0 ? 1 : 0));
        }

        /** What is left of x when y was taken from it as often as x / y cut towards 0 tells. */
        static long remainder(long x, long y) {
            if (isNan(x) || isNan(y) || isInfinite(x) || isZero(y)) {
                return NAN;
            }
            if ((x & ~SIGN) < (y & ~SIGN)) {
                return x;
            }
            long divisor = significandOf(y);
            if (divisor == 0) {
                return NAN;
            }
            long rest = significandOf(x) % divisor;
            for (int bits = exponentOf(x) - exponentOf(y); bits > 0; bits -= 10) {
                rest = (rest << Math.min(bits, 10)) % divisor;
            }
            return rounded(false, signOf(x), exponentOf(y), rest);
        }

        /** Two bits of the radicand give one of the root, as by hand. */
        static long squareRoot(long x) {
            if (isNan(x) || isZero(x) || x == INFINITE) {
                return x;
            }
            if (x < 0) {
                return NAN;
            }
            int odd = exponentOf(x) & 1;
            long radicand = significandOf(x) << odd;
            long root = 0;
            long rest = 0;
            for (int shift = 52; shift >= -56; shift -= 2) {
                rest = (rest << 2) | (shift >= 0 ? (radicand >>> shift) & 3 : 0);
                long trial = (root << 2) | 1;
                root <<= 1;
                if (rest >= trial) {
                    rest -= trial;
                    root |= 1;
                }
            }
            return rounded(false, 0, (exponentOf(x) - odd) / 2 - 28, root | (rest != 0 ? 1 : 0));
        }

        /** The whole number next to x by the mode, with x's sign. */
        static long whole(long x, int mode) {
            int exponent = field(x) - UNIT;
            if (exponent >= 0 || isZero(x)) {
                return x;
            }
            // Below the normal ones any 1 does: only that it is not 0 and below a half counts.
            long significand = field(x) != 0 ? significandOf(x) : 1;
            int drop = Math.min(-exponent, 60);
            long kept = significand >>> drop;
            long rest = significand & ((1L << drop) - 1);
            long half = 1L << (drop - 1);
            boolean further;
            switch (mode) {
                case DOWNWARDS: further = x < 0 && rest != 0; break;
                case UPWARDS: further = x >= 0 && rest != 0; break;
                case HALF_UP: further = x < 0 ? rest > half : rest >= half; break;
                default: further = rest > half || (rest == half && (kept & 1) == 1); break;
            }
            return rounded(false, signOf(x), 0, further ? kept + 1 : kept);
        }

        static long scaled(long x, int by) {
            if (isNan(x) || isInfinite(x) || isZero(x)) {
                return x;
            }
            int steps = Math.max(-SCALE_MOST, Math.min(SCALE_MOST, by));
            return rounded(false, signOf(x), exponentOf(x) + steps, significandOf(x));
        }

        static int unbiased(long x) {
            return field(x) - BIAS;
        }

        static int unbiasedSingle(long x) {
            return singleField(x) - SINGLE_BIAS;
        }

        static long ulp(long x) {
            if (isNan(x) || isInfinite(x)) {
                return x & ~SIGN;
            }
            return rounded(false, 0, Math.max(field(x), 1) - UNIT, 1);
        }

        static long singleUlp(long x) {
            if (singleField(x) == 0xff) {
                return x & SINGLE_SIZE;
            }
            return rounded(true, 0, Math.max(singleField(x), 1) - SINGLE_UNIT, 1);
        }

        static long nextUp(long x) {
            if (isNan(x) || x == INFINITE) {
                return x;
            }
            if (isZero(x)) {
                return 1;
            }
            return x > 0 ? x + 1 : x - 1;
        }

        static long singleNextUp(long x) {
            if (isSingleNan(x) || x == SINGLE_INFINITE) {
                return x;
            }
            if ((x & SINGLE_SIZE) == 0) {
                return 1;
            }
            return x > 0 ? x + 1 : x - 1;
        }
    }

    /** A number of 128 bits, for products that must not be rounded before something is added to them. */
    private static final class Wide {
        long high;
        long low;

        void shiftLeft(int by) {
            if (by >= 64) {
                high = low << (by - 64);
                low = 0;
            } else if (by > 0) {
                high = (high << by) | (low >>> (64 - by));
                low <<= by;
            }
        }

        /** The lowest bit is 1 afterwards if anything was lost. */
        void shiftRight(int by) {
            if (by <= 0) {
                return;
            }
            boolean lost;
            if (by >= 128) {
                lost = (high | low) != 0;
                high = 0;
                low = 0;
            } else if (by >= 64) {
                lost = low != 0 || (by > 64 && high << (128 - by) != 0);
                low = high >>> (by - 64);
                high = 0;
            } else {
                lost = low << (64 - by) != 0;
                low = (high << (64 - by)) | (low >>> by);
                high >>>= by;
            }
            if (lost) {
                low |= 1;
            }
        }

        void add(Wide other) {
            long sum = low + other.low;
            boolean carry = sum + Long.MIN_VALUE < low + Long.MIN_VALUE;
            low = sum;
            high += other.high + (carry ? 1 : 0);
        }

        void negate() {
            low = -low;
            high = ~high + (low == 0 ? 1 : 0);
        }

        boolean isZero() {
            return (high | low) == 0;
        }

        /** Zeros ahead of the highest 1, of 128 bits. */
        int leadingZeros() {
            return high != 0 ? Long.numberOfLeadingZeros(high) : 64 + Long.numberOfLeadingZeros(low);
        }
    }

    /** Numbers by their TYPES; i and l are longs with sign, f and d their bits. */
    private static final class Numbers {
        private final Wide product = new Wide();
        private final Wide summand = new Wide();

        static long convert(int from, int to, long x) {
            if (from == to) {
                return x;
            }
            boolean wasWhole = from == I || from == L;
            switch (to) {
                case I:
                    return wasWhole ? (int) x : clampedToInt(Soft.toLong(from == F ? Soft.ofSingle(x) : x));
                case L: return wasWhole ? x : Soft.toLong(from == F ? Soft.ofSingle(x) : x);
                case F: return wasWhole ? Soft.ofLong(true, x) : Soft.toSingle(x);
                case D: return wasWhole ? Soft.ofLong(false, x) : Soft.ofSingle(x);
                default: return x;
            }
        }

        private static long clampedToInt(long x) {
            return Math.max(Integer.MIN_VALUE, Math.min(Integer.MAX_VALUE, x));
        }

        static long negate(int type, long x) {
            switch (type) {
                case I: return (int) -x;
                case L: return -x;
                case F: return Soft.singleNegate(x);
                default: return Soft.negate(x);
            }
        }

        static long arithmetic(int sign, int left, int right, long x, long y) {
            int type = Math.max(left, right);
            if (type == I) {
                return (int) whole(sign, x, y);
            }
            if (type == L) {
                return whole(sign, x, y);
            }
            // Floats go through doubles: these have more than twice their bits, and two, so nothing is rounded twice.
            long a = convert(type, D, convert(left, type, x));
            long b = convert(type, D, convert(right, type, y));
            long answer;
            switch (sign) {
                case '+': answer = Soft.add(a, b); break;
                case '-': answer = Soft.add(a, Soft.negate(b)); break;
                case '*': answer = Soft.multiply(a, b); break;
                case '/': answer = Soft.divide(a, b); break;
                default: answer = Soft.remainder(a, b); break;
            }
            return convert(D, type, answer);
        }

        private static long whole(int sign, long x, long y) {
            switch (sign) {
                case '+': return x + y;
                case '-': return x - y;
                case '*': return x * y;
                case '/': return y == 0 ? 0 : x / y;
                default: return y == 0 ? 0 : x % y;
            }
        }

        private static boolean isNan(int type, long x) {
            return type == F ? Soft.isSingleNan(x) : type == D && Soft.isNan(x);
        }

        /** Orders what is not nan; the two zeros are one. */
        private static int order(int type, long x, long y) {
            if (type != F && type != D) {
                return Long.compare(x, y);
            }
            long least = type == F ? Soft.SINGLE_SIGN : Soft.SIGN;
            return Long.compare(x < 0 ? least - x : x, y < 0 ? least - y : y);
        }

        static boolean compares(int sign, int left, int right, long x, long y) {
            int type = Math.max(left, right);
            long a = convert(left, type, x);
            long b = convert(right, type, y);
            if (isNan(type, a) || isNan(type, b)) {
                return sign == Tokens.UNEQUAL;
            }
            int order = order(type, a, b);
            switch (sign) {
                case '<': return order < 0;
                case '>': return order > 0;
                case Tokens.AT_MOST: return order <= 0;
                case Tokens.AT_LEAST: return order >= 0;
                case Tokens.EQUAL: return order == 0;
                default: return order != 0;
            }
        }

        /** How many a FUNCTION takes. */
        static int operandsOf(int function) {
            switch (function) {
                case Tokens.MIN:
                case Tokens.MAX:
                case Tokens.COPYSIGN:
                case Tokens.SCALB: return 2;
                case Tokens.FMA: return 3;
                default: return 1;
            }
        }

        /** The TYPE that a FUNCTION answers for operands of these TYPES; 0 if it does not take them. */
        static int typeOf(int function, int first, int second, int third) {
            if (first == T || second == T || third == T) {
                return 0;
            }
            boolean real = first == F || first == D;
            switch (function) {
                case Tokens.LONG: return L;
                case Tokens.FLOAT: return F;
                case Tokens.BITS:
                case Tokens.ROUND: return real ? first - 2 : 0;
                case Tokens.REAL: return real ? 0 : first + 2;
                case Tokens.ABS: return first;
                case Tokens.MIN:
                case Tokens.MAX: return Math.max(first, second);
                case Tokens.ULP:
                case Tokens.UP:
                case Tokens.DOWN: return first == F ? F : D;
                case Tokens.COPYSIGN: return first == F && second == F ? F : D;
                case Tokens.SCALB: return second == I ? D : 0;
                case Tokens.NANS: return real ? T : 0;
                case Tokens.INT:
                case Tokens.BYTE:
                case Tokens.SHORT:
                case Tokens.SIGN:
                case Tokens.EXPONENT: return I;
                default: return D;
            }
        }

        /** The operands' TYPES stand in types, three bits for each. */
        long apply(int function, int types, long x, long y, long z) {
            int first = types & 7;
            int second = (types >> 3) & 7;
            int greater = Math.max(first, second);
            switch (function) {
                case Tokens.INT: return convert(first, I, x);
                case Tokens.LONG: return convert(first, L, x);
                case Tokens.FLOAT: return convert(first, F, x);
                case Tokens.BYTE: return (byte) convert(first, I, x);
                case Tokens.SHORT: return (short) convert(first, I, x);
                case Tokens.SIGN: return (char) convert(first, I, x);
                case Tokens.BITS: return x;
                case Tokens.REAL: return first == I ? Soft.singleOfBits(x) : Soft.ofBits(x);
                case Tokens.ABS: return x < 0 ? negate(first, x) : x;
                case Tokens.MIN: return least(greater, convert(first, greater, x), convert(second, greater, y));
                case Tokens.MAX: return greatest(greater, convert(first, greater, x), convert(second, greater, y));
                case Tokens.COPYSIGN: return first == F && second == F
                    ? withSign(F, x, y) : withSign(D, convert(first, D, x), y);
                case Tokens.ROUND: return convert(D, first - 2, Soft.whole(convert(first, D, x), Soft.HALF_UP));
                case Tokens.NANS: return isNan(first, x) ? 1 : 0;
                case Tokens.FMA: return fused(convert(first, D, x), convert(second, D, y), convert(types >> 6, D, z));
                case Tokens.SCALB: return Soft.scaled(convert(first, D, x), (int) y);
                case Tokens.ULP:
                case Tokens.UP:
                case Tokens.DOWN:
                case Tokens.EXPONENT:
                    return first == F ? ofSingle(function, x) : ofDouble(function, convert(first, D, x));
                default: return ofDouble(function, convert(first, D, x));
            }
        }

        private static long ofSingle(int function, long x) {
            switch (function) {
                case Tokens.ULP: return Soft.singleUlp(x);
                case Tokens.UP: return Soft.singleNextUp(x);
                case Tokens.DOWN: return Soft.singleNegate(Soft.singleNextUp(Soft.singleNegate(x)));
                default: return Soft.unbiasedSingle(x);
            }
        }

        private static long ofDouble(int function, long x) {
            switch (function) {
                case Tokens.FLOOR: return Soft.whole(x, Soft.DOWNWARDS);
                case Tokens.CEIL: return Soft.whole(x, Soft.UPWARDS);
                case Tokens.RINT: return Soft.whole(x, Soft.TO_EVEN);
                case Tokens.SQRT: return Soft.squareRoot(x);
                case Tokens.SIGNUM: return Soft.isNan(x) || Soft.isZero(x) ? x : (x & Soft.SIGN) | Soft.ONE;
                case Tokens.ULP: return Soft.ulp(x);
                case Tokens.UP: return Soft.nextUp(x);
                case Tokens.DOWN: return Soft.negate(Soft.nextUp(Soft.negate(x)));
                case Tokens.EXPONENT: return Soft.unbiased(x);
                default: return x;
            }
        }

        private static long least(int type, long x, long y) {
            if (isNan(type, x) || isNan(type, y)) {
                return isNan(type, x) ? x : y;
            }
            int order = order(type, x, y);
            // Of two zeros that of sign - .
            return order < 0 || (order == 0 && x < 0) ? x : y;
        }

        private static long greatest(int type, long x, long y) {
            if (isNan(type, x) || isNan(type, y)) {
                return isNan(type, x) ? x : y;
            }
            int order = order(type, x, y);
            return order > 0 || (order == 0 && x >= 0) ? x : y;
        }

        /** All TYPES have their sign where the long has it. */
        private static long withSign(int type, long x, long y) {
            long sign = type == F ? Soft.SINGLE_SIGN : Soft.SIGN;
            return isNan(type, x) || (x < 0) == (y < 0) ? x : x ^ sign;
        }

        private long fused(long x, long y, long z) {
            if (Soft.isNan(x) || Soft.isNan(y) || Soft.isNan(z)) {
                return Soft.NAN;
            }
            boolean exact = Soft.isInfinite(x) || Soft.isInfinite(y) || Soft.isZero(x) || Soft.isZero(y);
            if (exact) {
                return Soft.add(Soft.multiply(x, y), z);
            }
            if (Soft.isInfinite(z)) {
                return z;
            }
            return Soft.isZero(z) ? Soft.multiply(x, y) : fusedFinite(x, y, z);
        }

        /** Both are laid with their highest bits at 124 or 125, so that no bit that counts is lost. */
        private long fusedFinite(long x, long y, long z) {
            int productUnit = Soft.exponentOf(x) + Soft.exponentOf(y) - 20;
            int summandUnit = Soft.exponentOf(z) - 72;
            product.high = Soft.highProduct(Soft.significandOf(x), Soft.significandOf(y));
            product.low = Soft.significandOf(x) * Soft.significandOf(y);
            product.shiftLeft(20);
            summand.high = Soft.significandOf(z) << 8;
            summand.low = 0;
            int unit = Math.max(productUnit, summandUnit);
            product.shiftRight(unit - productUnit);
            summand.shiftRight(unit - summandUnit);
            if ((x ^ y) < 0) {
                product.negate();
            }
            if (z < 0) {
                summand.negate();
            }
            product.add(summand);
            if (product.isZero()) {
                return 0;
            }
            long sign = product.high < 0 ? -1 : 0;
            if (sign != 0) {
                product.negate();
            }
            int shift = Math.max(product.leadingZeros() - 1, 0);
            product.shiftLeft(shift);
            return Soft.rounded(false, sign, unit - shift + 64, product.high | (product.low != 0 ? 1 : 0));
        }
    }

    /** The text cut into tokens, how far they have been read, and the FAULT that ended it. */
    private static final class Tokens {
        // FAULTS of a text.
        static final int BAD_TOKEN = 1;
        static final int BAD_SYNTAX = 2;
        static final int BAD_NAME = 3;
        static final int TWICE = 4;
        static final int BAD_TYPE = 5;
        static final int MANY = 6;

        // Kinds of tokens: these, signs by their byte (256 more with a = behind it), words from FIRST_WORD on.
        static final int END = 0;
        static final int NAME = 1;
        static final int CELL = 2;
        static final int LANE = 3;
        static final int NUMBER = 3;
        static final int WITH_EQUALS = 256;
        static final int AT_MOST = '<' + WITH_EQUALS;
        static final int AT_LEAST = '>' + WITH_EQUALS;
        static final int EQUAL = '=' + WITH_EQUALS;
        static final int UNEQUAL = '!' + WITH_EQUALS;

        static final int FIRST_WORD = 1000;
        static final int MACRO = 1000;
        static final int LET = 1001;
        static final int IF = 1002;
        static final int ELSE = 1003;
        static final int WHILE = 1004;
        static final int TRY = 1005;
        static final int ON = 1006;
        static final int ALWAYS = 1007;
        static final int UNDO = 1008;
        static final int FAIL = 1009;
        static final int RETURN = 1010;
        static final int PRINT = 1011;
        static final int COPY = 1012;
        static final int NEW = 1013;
        static final int CLONE = 1014;
        static final int NO_THING = 1015;
        static final int FIRST_BOX = 1016;
        static final int LAST_BOX = 1018;
        static final int NUM = 1019;
        static final int MARK = 1020;
        static final int SIZE = 1021;
        static final int WORTH = 1022;
        static final int SAME = 1023;
        static final int IS = 1024;
        static final int AS = 1025;
        static final int AND = 1026;
        static final int OR = 1027;
        static final int NOT = 1028;
        static final int TRUE = 1029;
        static final int FALSE = 1030;
        static final int NAN = 1031;
        static final int INF = 1032;
        static final int FIRST_TYPE = 1033;
        static final int LAST_TYPE = 1037;
        static final int FIRST_KIND = 1038;
        static final int LAST_KIND = 1046;
        static final int FIRST_FUNCTION = 1047;
        static final int INT = 1047;
        static final int LONG = 1048;
        static final int FLOAT = 1049;
        static final int DOUBLE = 1050;
        static final int BYTE = 1051;
        static final int SHORT = 1052;
        static final int SIGN = 1053;
        static final int BITS = 1054;
        static final int REAL = 1055;
        static final int ABS = 1056;
        static final int MIN = 1057;
        static final int MAX = 1058;
        static final int FLOOR = 1059;
        static final int CEIL = 1060;
        static final int RINT = 1061;
        static final int SQRT = 1062;
        static final int SIGNUM = 1063;
        static final int ROUND = 1064;
        static final int ULP = 1065;
        static final int UP = 1066;
        static final int DOWN = 1067;
        static final int COPYSIGN = 1068;
        static final int FMA = 1069;
        static final int SCALB = 1070;
        static final int EXPONENT = 1071;
        static final int NANS = 1072;
        static final int LAST_FUNCTION = 1072;

        static final int MOST = 2000;
        private static final int OPEN_MOST = 12;
        private static final int BLOCKS_MOST = 10;
        private static final int WORD_LENGTH_MOST = 12;
        private static final int REAL_DIGITS_MOST = 15;
        private static final int WORD_COUNT = 73;
        // In the order of the numbers above.
        private static final String STATEMENT_WORDS =
            "macro let if else while try on always undo fail return print copy";
        private static final String THING_WORDS = "new clone none box note seal num mark size worth same is as";
        private static final String VALUE_WORDS = "and or not true false nan inf i l f d t";
        private static final String KIND_WORDS = "missing place count kind element zero own deep any";
        private static final String CONVERSION_WORDS = "int long float double byte short sign bits real";
        private static final String FUNCTION_WORDS =
            "abs min max floor ceil rint sqrt signum round ulp up down copysign fma scalb exponent nans";

        private final long[] words = new long[WORD_COUNT];
        private final byte[] text = new byte[TAPE_MOST];
        private int length;
        private final int[] kinds = new int[MOST + 1];
        private final int[] places = new int[MOST + 1];
        private final long[] values = new long[MOST + 1];
        private int count;
        private int opens;
        private int blocks;
        // The token that is read next.
        int next;
        int kind;
        int place;
        long value;
        int lastPlace;
        int faultKind;
        int faultPlace;

        Tokens() {
            int filled = encode(words, 0, STATEMENT_WORDS);
            filled = encode(words, filled, THING_WORDS);
            filled = encode(words, filled, VALUE_WORDS);
            filled = encode(words, filled, KIND_WORDS);
            filled = encode(words, filled, CONVERSION_WORDS);
            encode(words, filled, FUNCTION_WORDS);
        }

        /** Puts the words of the list behind those that are there; how many there are then. */
        private static int encode(long[] words, int filled, String list) {
            int word = filled;
            for (int i = 0; i < list.length(); i++) {
                char sign = list.charAt(i);
                if (sign == ' ') {
                    word++;
                } else if (word < words.length) {
                    words[word] = longer(words[word], sign);
                }
            }
            return word + 1;
        }

        /** A word of at most 12 letters and digits is one long: 37 to 12 is below 2 to 63. */
        private static long longer(long word, int sign) {
            return word * 37 + (isDigit(sign) ? sign - '0' + 27 : sign - 'a' + 1);
        }

        void load(byte[] tape, int size) {
            length = Math.max(0, Math.min(size, Math.min(tape.length, text.length)));
            System.arraycopy(tape, 0, text, 0, length);
            count = 0;
            opens = 0;
            blocks = 0;
            lastPlace = 0;
            faultKind = 0;
            faultPlace = 0;
        }

        int fail(int ofKind, int atPlace) {
            faultKind = ofKind;
            faultPlace = atPlace;
            throw new IllegalStateException("a fault of the text");
        }

        /** The token can't stand here. */
        int refuse() {
            faultKind = BAD_SYNTAX;
            faultPlace = place;
            throw new IllegalStateException("a token that can't stand there");
        }

        void cut() {
            int at = 0;
            for (int turn = 0; turn < TAPE_MOST && at < length; turn++) {
                at = isBlank(byteAt(at)) ? at + 1 : cutOne(at);
            }
            if (count <= MOST) {
                kinds[count] = END;
                places[count] = length;
            }
            next = 0;
            kind = kinds[0];
            place = places[0];
            value = values[0];
        }

        private int byteAt(int i) {
            return i >= 0 && i < length ? text[i] & 255 : 0;
        }

        private static boolean isBlank(int sign) {
            return sign == ' ' || sign == 9 || sign == 10 || sign == 13;
        }

        private static boolean isDigit(int sign) {
            return sign >= '0' && sign <= '9';
        }

        private static boolean isSmall(int sign) {
            return sign >= 'a' && sign <= 'z';
        }

        /** Where the next token may begin. */
        private int cutOne(int from) {
            int sign = byteAt(from);
            if (isSmall(sign)) {
                return cutWord(from);
            }
            if (sign >= 'A' && sign <= 'Z') {
                return cutCapital(from);
            }
            if (isDigit(sign)) {
                return cutNumber(from);
            }
            return sign == '\'' ? cutQuoted(from) : cutSign(from);
        }

        private void add(int ofKind, int atPlace, long ofValue) {
            if (count >= MOST) {
                fail(MANY, atPlace);
            } else {
                kinds[count] = ofKind;
                places[count] = atPlace;
                values[count] = ofValue;
                count++;
            }
        }

        private int cutWord(int from) {
            int behind = from;
            long word = 0;
            while (behind < length && (isSmall(byteAt(behind)) || isDigit(byteAt(behind)))) {
                word = longer(word, byteAt(behind));
                behind++;
            }
            if (behind - from > WORD_LENGTH_MOST) {
                return fail(BAD_TOKEN, from);
            }
            add(kindOfWord(word), from, word);
            return behind;
        }

        private int kindOfWord(long word) {
            for (int i = 0; i < words.length; i++) {
                if (words[i] == word) {
                    return FIRST_WORD + i;
                }
            }
            return NAME;
        }

        private int cutCapital(int from) {
            int column = byteAt(from) - 'A';
            int row = byteAt(from + 1) - '0';
            boolean withRow = row >= 0 && row <= 7;
            if (column <= COLUMN_K && withRow) {
                add(CELL, from, 8 * column + row);
                return from + 2;
            }
            int lane = laneOf(byteAt(from));
            if (lane == 0 || withRow) {
                return fail(BAD_TOKEN, from);
            }
            add(LANE, from, lane);
            return from + 1;
        }

        private static int laneOf(int letter) {
            if (letter == 'N') {
                return ROW_N;
            }
            if (letter == 'S') {
                return ROW_S;
            }
            return letter <= 'J' ? letter - 'A' + 1 : 0;
        }

        private int digitsEnd(int from) {
            int behind = from;
            while (behind < length && isDigit(byteAt(behind))) {
                behind++;
            }
            return behind;
        }

        private int cutNumber(int from) {
            int behind = digitsEnd(from);
            if (byteAt(behind) == '.' && isDigit(byteAt(behind + 1))) {
                return cutReal(from, digitsEnd(behind + 1), behind);
            }
            boolean isLong = byteAt(behind) == 'l';
            long number = wholeNumber(from, behind, isLong ? Long.MAX_VALUE : Integer.MAX_VALUE);
            if (number < 0) {
                return fail(BAD_TOKEN, from);
            }
            add(NUMBER + (isLong ? L : I), from, number);
            return isLong ? behind + 1 : behind;
        }

        /** NONE beyond most. */
        private long wholeNumber(int from, int behind, long most) {
            long number = 0;
            for (int i = from; i < behind; i++) {
                int digit = byteAt(i) - '0';
                if (number > (most - digit) / 10) {
                    return NONE;
                }
                number = number * 10 + digit;
            }
            return number;
        }

        /** With 15 digits at most both sides of the division are doubles, so it is rounded once. */
        private int cutReal(int from, int behind, int point) {
            if (behind - from - 1 > REAL_DIGITS_MOST) {
                return fail(BAD_TOKEN, from);
            }
            long digits = 0;
            long power = 1;
            for (int i = from; i < behind; i++) {
                if (i != point) {
                    digits = digits * 10 + (byteAt(i) - '0');
                }
                if (i > point) {
                    power *= 10;
                }
            }
            long number = Soft.divide(Soft.ofLong(false, digits), Soft.ofLong(false, power));
            if (byteAt(behind) == 'f') {
                add(NUMBER + F, from, Soft.toSingle(number));
                return behind + 1;
            }
            add(NUMBER + D, from, number);
            return behind;
        }

        private int cutQuoted(int from) {
            int sign = byteAt(from + 1);
            if (sign < 32 || sign > 126 || byteAt(from + 2) != '\'') {
                return fail(BAD_TOKEN, from);
            }
            add(NUMBER + I, from, sign);
            return from + 3;
        }

        private int cutSign(int from) {
            int sign = byteAt(from);
            boolean withEquals = byteAt(from + 1) == '=';
            switch (sign) {
                case '<':
                case '>':
                case '=':
                case '!':
                    if (withEquals) {
                        add(sign + WITH_EQUALS, from, 0);
                        return from + 2;
                    }
                    if (sign == '!') {
                        return fail(BAD_TOKEN, from);
                    }
                    break;
                case '{': case '}': case '(': case ')': case '[': case ']': case ',': case ';': case '.':
                case '+': case '-': case '*': case '/': case '%':
                    break;
                default:
                    return fail(BAD_TOKEN, from);
            }
            add(sign, from, 0);
            return from + 1;
        }

        boolean is(int wanted) {
            return kind == wanted;
        }

        boolean isBetween(int first, int last) {
            return kind >= first && kind <= last;
        }

        /** Whether the token behind the next one is of this kind. */
        boolean isBehind(int wanted) {
            return next < count && next < MOST && kinds[next + 1] == wanted;
        }

        /** NONE if the token is no cell. */
        int column() {
            return kind == CELL ? (int) value / 8 : NONE;
        }

        /** Goes behind the token; its place. */
        int take() {
            lastPlace = place;
            if (next < count && next < MOST) {
                next++;
                kind = kinds[next];
                place = places[next];
                value = values[next];
            }
            return lastPlace;
        }

        int take(int wanted) {
            return kind == wanted ? take() : refuse();
        }

        /** Takes what stays open till close(). */
        int open(int wanted) {
            if (kind != wanted) {
                return refuse();
            }
            if (opens >= OPEN_MOST) {
                return fail(MANY, place);
            }
            opens++;
            return take();
        }

        void close() {
            opens--;
        }

        void openBlock() {
            if (kind == '{' && blocks >= BLOCKS_MOST) {
                fail(MANY, place);
            }
            take('{');
            blocks++;
        }

        void closeBlock() {
            take('}');
            blocks--;
        }
    }

    /** Instructions (what to do, two operands, the place of its FAULTS) and the macros that they make. */
    private static final class Code {
        static final int CONSTANT = 1;
        static final int LOAD = 2;
        static final int SAVE = 3;
        static final int DROP = 4;
        static final int STEP = 5;
        static final int JUMP = 6;
        static final int JUMP_IF_FALSE = 7;
        static final int AND = 8;
        static final int OR = 9;
        static final int NOT = 10;
        static final int NEGATE = 11;
        static final int ARITHMETIC = 12;
        static final int COMPARE = 13;
        static final int CONVERT = 14;
        static final int FUNCTION = 15;
        static final int CALL = 16;
        static final int RETURN = 17;
        static final int FAIL = 18;
        static final int PRINT = 19;
        static final int TRY = 20;
        static final int ON = 21;
        static final int LEAVE_TRY = 22;
        static final int END_ALWAYS = 23;
        static final int UNDO = 24;
        static final int END_UNDO = 25;
        static final int FIRST_OF_SHEET = 30;
        static final int CELL = 30;
        static final int SET_CELL = 31;
        static final int READ = 32;
        static final int STORE = 33;
        static final int NUM = 34;
        static final int MARK = 35;
        static final int SET_NUM = 36;
        static final int SET_MARK = 37;
        static final int AS = 38;
        static final int IS = 39;
        static final int CLONE = 40;
        static final int NEW = 41;
        static final int NEW_ROWS = 42;
        static final int BOX_OF = 43;
        static final int SIZE = 44;
        static final int WORTH = 45;
        static final int SAME = 46;
        static final int COPY = 47;

        static final int MACROS_MOST = 40;
        static final int PARAMETERS_MOST = 6;
        private static final int FIRST_ROOM = 256;

        private int[] operations = new int[FIRST_ROOM];
        private int[] firsts = new int[FIRST_ROOM];
        private int[] seconds = new int[FIRST_ROOM];
        private int[] thirds = new int[FIRST_ROOM];
        int size;
        int macros;
        private final long[] macroWords = new long[MACROS_MOST];
        private final int[] entries = new int[MACROS_MOST];
        private final int[] parameterCounts = new int[MACROS_MOST];
        private final int[] resultTypes = new int[MACROS_MOST];
        private final int[] parameterTypes = new int[MACROS_MOST * PARAMETERS_MOST];

        void forget() {
            size = 0;
            macros = 0;
        }

        int emit(int operation, int first, int second, int third) {
            if (size >= operations.length) {
                int room = operations.length * 2;
                operations = Arrays.copyOf(operations, room);
                firsts = Arrays.copyOf(firsts, room);
                seconds = Arrays.copyOf(seconds, room);
                thirds = Arrays.copyOf(thirds, room);
            }
            operations[size] = operation;
            firsts[size] = first;
            seconds[size] = second;
            thirds[size] = third;
            size++;
            return size - 1;
        }

        void emitConstant(long value) {
            emit(CONSTANT, (int) (value >> 32), (int) value, 0);
        }

        /** An i is an l as it stands. */
        void emitConversion(int from, int to) {
            if (from != to && to != L) {
                emit(CONVERT, from, to, 0);
            }
        }

        int operation(int i) {
            return i >= 0 && i < size ? operations[i] : 0;
        }

        int first(int i) {
            return i >= 0 && i < size ? firsts[i] : 0;
        }

        int second(int i) {
            return i >= 0 && i < size ? seconds[i] : 0;
        }

        int third(int i) {
            return i >= 0 && i < size ? thirds[i] : 0;
        }

        void setFirst(int i, int value) {
            if (i >= 0 && i < size) {
                firsts[i] = value;
            }
        }

        void setSecond(int i, int value) {
            if (i >= 0 && i < size) {
                seconds[i] = value;
            }
        }

        void setThird(int i, int value) {
            if (i >= 0 && i < size) {
                thirds[i] = value;
            }
        }

        /** A jump goes to what comes next. */
        void aimHere(int jump) {
            setFirst(jump, size);
        }

        private static boolean isMacro(int macro) {
            return macro >= 0 && macro < MACROS_MOST;
        }

        /** NONE if there is none of this name. */
        int findMacro(long word) {
            for (int i = 0; i < macros && i < MACROS_MOST; i++) {
                if (macroWords[i] == word) {
                    return i;
                }
            }
            return NONE;
        }

        void addMacro(long word) {
            if (isMacro(macros)) {
                macroWords[macros] = word;
                parameterCounts[macros] = 0;
                resultTypes[macros] = 0;
                macros++;
            }
        }

        void addParameter(int type) {
            int macro = macros - 1;
            if (isMacro(macro) && parameterCounts[macro] < PARAMETERS_MOST) {
                parameterTypes[macro * PARAMETERS_MOST + parameterCounts[macro]] = type;
                parameterCounts[macro]++;
            }
        }

        void beginBlock(int resultType) {
            int macro = macros - 1;
            if (isMacro(macro)) {
                resultTypes[macro] = resultType;
                entries[macro] = size;
            }
        }

        int entryOf(int macro) {
            return isMacro(macro) ? entries[macro] : 0;
        }

        int parametersOf(int macro) {
            return isMacro(macro) ? parameterCounts[macro] : 0;
        }

        int resultOf(int macro) {
            return isMacro(macro) ? resultTypes[macro] : 0;
        }

        int parameterType(int macro, int i) {
            return i >= 0 && i < parametersOf(macro) ? parameterTypes[macro * PARAMETERS_MOST + i] : 0;
        }
    }

    /** Reads E and THING, and knows the NAMES that are there. */
    private static final class Expressions {
        // THINGS by what is known of them: none, lanes by their number, a box, a K.
        private static final int NO_THING = 0;
        private static final int SOME_BOX = 13;
        private static final int UNKNOWN = 14;
        // Where a THING may go, beside the columns: where boxes may.
        static final int TO_BOXES = 20;

        private final Tokens tokens;
        private final Code code;
        private final long[] names = new long[NAMES_MOST];
        private final int[] nameTypes = new int[NAMES_MOST];
        int nameCount;
        // Only here may CELL [ E ] is .. begin, and behind it no sign of an operator may stand.
        private int comparisonStart;
        private boolean isWasRead;

        Expressions(Tokens tokens, Code code) {
            this.tokens = tokens;
            this.code = code;
        }

        int findName(long word) {
            for (int i = 0; i < nameCount && i < NAMES_MOST; i++) {
                if (names[i] == word) {
                    return i;
                }
            }
            return NONE;
        }

        int nameType(int slot) {
            return slot >= 0 && slot < NAMES_MOST ? nameTypes[slot] : 0;
        }

        void addName(long word, int type) {
            if (nameCount >= 0 && nameCount < NAMES_MOST) {
                names[nameCount] = word;
                nameTypes[nameCount] = type;
                nameCount++;
            }
        }

        /** At a NAME that must be new. */
        void checkNewName() {
            if (!tokens.is(Tokens.NAME)) {
                tokens.refuse();
            } else if (findName(tokens.value) != NONE) {
                tokens.fail(Tokens.TWICE, tokens.place);
            } else if (nameCount >= NAMES_MOST) {
                tokens.fail(Tokens.MANY, tokens.place);
            }
        }

        void forgetNames() {
            nameCount = 0;
            comparisonStart = NONE;
            isWasRead = false;
        }

        /** At a NAME; its slot. */
        int takeName() {
            int slot = findName(tokens.value);
            if (slot == NONE) {
                tokens.fail(Tokens.BAD_NAME, tokens.place);
            }
            tokens.take();
            return slot;
        }

        /** Reads an E that goes to what has this TYPE. */
        private void readFor(int wanted) {
            int start = tokens.place;
            int type = readExpression();
            boolean fits = type == wanted || (type < wanted && wanted != T);
            if (!fits) {
                tokens.fail(Tokens.BAD_TYPE, start);
            }
            code.emitConversion(type, wanted);
        }

        private int readExpression() {
            int left = readConjunction();
            for (int turn = 0; turn < Tokens.MOST && tokens.is(Tokens.OR); turn++) {
                int sign = tokens.take();
                int jump = code.emit(Code.OR, 0, 0, 0);
                requireTruths(left, readConjunction(), sign);
                code.aimHere(jump);
            }
            return left;
        }

        private int readConjunction() {
            int left = readNegation();
            for (int turn = 0; turn < Tokens.MOST && tokens.is(Tokens.AND); turn++) {
                int sign = tokens.take();
                int jump = code.emit(Code.AND, 0, 0, 0);
                requireTruths(left, readNegation(), sign);
                code.aimHere(jump);
            }
            return left;
        }

        private void requireTruths(int left, int right, int sign) {
            if (left != T || right != T) {
                tokens.fail(Tokens.BAD_TYPE, sign);
            }
        }

        private int readNegation() {
            if (!tokens.is(Tokens.NOT)) {
                return readComparison();
            }
            int sign = tokens.open(Tokens.NOT);
            int type = readNegation();
            tokens.close();
            requireTruths(type, type, sign);
            code.emit(Code.NOT, 0, 0, 0);
            return T;
        }

        private int readComparison() {
            if (tokens.column() == COLUMN_K) {
                return readIsOfCell();
            }
            comparisonStart = tokens.next;
            int left = readSum();
            if (isWasRead) {
                isWasRead = false;
                return left;
            }
            int kind = tokens.kind;
            boolean equality = kind == Tokens.EQUAL || kind == Tokens.UNEQUAL;
            boolean order = kind == '<' || kind == '>' || kind == Tokens.AT_MOST || kind == Tokens.AT_LEAST;
            if (!equality && !order) {
                return left;
            }
            int sign = tokens.take();
            int right = readSum();
            boolean numbers = left != T && right != T;
            if (!numbers && !(equality && left == right)) {
                tokens.fail(Tokens.BAD_TYPE, sign);
            }
            code.emit(Code.COMPARE, kind, left * 8 + right, 0);
            return T;
        }

        private int readIsOfCell() {
            code.emit(Code.CELL, (int) tokens.value, 0, 0);
            tokens.take();
            tokens.take(Tokens.IS);
            code.emit(Code.IS, takeKind(true), 0, 0);
            return T;
        }

        /** box, note or seal, or where lanes may stand one of these; as cell() tells it. */
        private int takeKind(boolean orLane) {
            boolean isLane = orLane && tokens.is(Tokens.LANE);
            if (!isLane && !tokens.isBetween(Tokens.FIRST_BOX, Tokens.LAST_BOX)) {
                tokens.refuse();
            }
            int kind = isLane ? (int) tokens.value : BOX + tokens.kind - Tokens.FIRST_BOX;
            tokens.take();
            return kind;
        }

        private int readSum() {
            int left = readProduct();
            for (int turn = 0; turn < Tokens.MOST && !isWasRead && (tokens.is('+') || tokens.is('-')); turn++) {
                int kind = tokens.kind;
                int sign = tokens.take();
                left = emitArithmetic(kind, left, readProduct(), sign);
            }
            return left;
        }

        private int readProduct() {
            int left = readSigned();
            for (int turn = 0; turn < Tokens.MOST && !isWasRead && isProductSign(); turn++) {
                int kind = tokens.kind;
                int sign = tokens.take();
                left = emitArithmetic(kind, left, readSigned(), sign);
            }
            return left;
        }

        private boolean isProductSign() {
            return tokens.is('*') || tokens.is('/') || tokens.is('%');
        }

        private int emitArithmetic(int kind, int left, int right, int sign) {
            if (left == T || right == T) {
                tokens.fail(Tokens.BAD_TYPE, sign);
            }
            code.emit(Code.ARITHMETIC, kind, left * 8 + right, sign);
            return Math.max(left, right);
        }

        private int readSigned() {
            if (!tokens.is('-')) {
                return readPrimary();
            }
            int sign = tokens.open('-');
            int type = readSigned();
            tokens.close();
            if (type == T) {
                tokens.fail(Tokens.BAD_TYPE, sign);
            }
            code.emit(Code.NEGATE, type, 0, 0);
            return type;
        }

        private int readPrimary() {
            int kind = tokens.kind;
            if (kind >= Tokens.FIRST_FUNCTION && kind <= Tokens.LAST_FUNCTION) {
                return readFunction();
            }
            switch (kind) {
                case Tokens.NUMBER + I:
                case Tokens.NUMBER + L:
                case Tokens.NUMBER + F:
                case Tokens.NUMBER + D: return takeConstant(kind - Tokens.NUMBER, tokens.value);
                case Tokens.TRUE: return takeConstant(T, 1);
                case Tokens.FALSE: return takeConstant(T, 0);
                case Tokens.NAN: return takeConstant(D, Soft.NAN);
                case Tokens.INF: return takeConstant(D, Soft.INFINITE);
                case Tokens.NAME: return tokens.isBehind('(') ? readCall(true) : readName();
                case Tokens.CELL: return readElement();
                case Tokens.SIZE: return readSize();
                case Tokens.SAME: return readSame();
                case Tokens.WORTH: return readWorth();
                case '(': return readInParentheses();
                default: return tokens.refuse();
            }
        }

        private int takeConstant(int type, long value) {
            tokens.take();
            code.emitConstant(value);
            return type;
        }

        private int readName() {
            int slot = takeName();
            code.emit(Code.LOAD, slot, 0, 0);
            return nameType(slot);
        }

        private int readInParentheses() {
            tokens.open('(');
            int type = readExpression();
            tokens.take(')');
            tokens.close();
            return type;
        }

        /** At a NAME with a ( behind it; the macro's TYPE. */
        private int readCall(boolean inExpression) {
            int macro = code.findMacro(tokens.value);
            if (macro == NONE) {
                return tokens.fail(Tokens.BAD_NAME, tokens.place);
            }
            if (inExpression && code.resultOf(macro) == 0) {
                return tokens.fail(Tokens.BAD_TYPE, tokens.place);
            }
            int name = tokens.take();
            tokens.open('(');
            int count = 0;
            boolean more = !tokens.is(')');
            for (int turn = 0; turn < Tokens.MOST && more; turn++) {
                readArgument(macro, count);
                count++;
                more = tokens.is(',');
                if (more) {
                    tokens.take();
                }
            }
            closeOperands(count, code.parametersOf(macro));
            code.emit(Code.CALL, macro, 0, name);
            return code.resultOf(macro);
        }

        private void readArgument(int macro, int i) {
            if (i < code.parametersOf(macro)) {
                readFor(code.parameterType(macro, i));
            } else {
                readExpression();
            }
        }

        private void closeOperands(int count, int wanted) {
            if (tokens.is(')') && count != wanted) {
                tokens.fail(Tokens.BAD_TYPE, tokens.place);
            }
            tokens.take(')');
            tokens.close();
        }

        private int readFunction() {
            int function = tokens.kind;
            int word = tokens.take();
            tokens.open('(');
            int types = readExpression();
            int count = 1;
            for (int turn = 0; turn < Tokens.MOST && tokens.is(','); turn++) {
                tokens.take();
                int type = readExpression();
                types |= count < 3 ? type << (3 * count) : 0;
                count++;
            }
            closeOperands(count, Numbers.operandsOf(function));
            int type = Numbers.typeOf(function, types & 7, (types >> 3) & 7, (types >> 6) & 7);
            if (type == 0) {
                tokens.fail(Tokens.BAD_TYPE, word);
            }
            code.emit(Code.FUNCTION, function, types, 0);
            return type;
        }

        /** [ E ] behind the cell or element that was put on the stack; the element is there afterwards. */
        private void readIndex() {
            tokens.open('[');
            readFor(I);
            tokens.take(']');
            tokens.close();
        }

        private int readElement() {
            boolean mayBeIs = tokens.next == comparisonStart;
            int column = tokens.column();
            int place = emitCell();
            if (column == COLUMN_K) {
                // What may stand behind a K was read ahead of this.
                return tokens.refuse();
            }
            readIndex();
            code.emit(Code.READ, 0, 0, place);
            if (column == COLUMN_I) {
                readIndex();
                code.emit(Code.READ, 0, 0, place);
                return I;
            }
            if (column != COLUMN_J) {
                return typeOfColumn(column);
            }
            if (mayBeIs && tokens.is(Tokens.IS)) {
                tokens.take();
                code.emit(Code.IS, takeKind(false), 0, 0);
                isWasRead = true;
                return T;
            }
            boolean isNum = takeNumOrMark();
            code.emit(isNum ? Code.NUM : Code.MARK, 0, 0, place);
            return isNum ? L : I;
        }

        /** . num or . mark; whether it is the first. */
        boolean takeNumOrMark() {
            tokens.take('.');
            boolean isNum = tokens.is(Tokens.NUM);
            tokens.take(isNum ? Tokens.NUM : Tokens.MARK);
            return isNum;
        }

        /** Takes a cell; its place. */
        int emitCell() {
            int cell = (int) tokens.value;
            int place = tokens.take(Tokens.CELL);
            code.emit(Code.CELL, cell, 0, 0);
            return place;
        }

        /** The TYPE of the elements of columns A to H. */
        static int typeOfColumn(int column) {
            return column < 4 ? I : column - 2;
        }

        private int readSize() {
            int word = tokens.take();
            int column = tokens.column();
            int place = emitCell();
            if (column == COLUMN_I && tokens.is('[')) {
                readIndex();
                code.emit(Code.READ, 0, 0, place);
            }
            code.emit(Code.SIZE, 0, 0, word);
            return I;
        }

        private int readSame() {
            tokens.take();
            tokens.open('(');
            readThing(COLUMN_K);
            tokens.take(',');
            readThing(COLUMN_K);
            tokens.take(')');
            tokens.close();
            code.emit(Code.SAME, 0, 0, 0);
            return T;
        }

        private int readWorth() {
            int word = tokens.take();
            tokens.open('(');
            readThing(TO_BOXES);
            tokens.take(')');
            tokens.close();
            code.emit(Code.WORTH, 0, 0, word);
            return L;
        }

        /** Reads a THING that goes to a cell of this column (of D: to an element of an I), or where boxes may. */
        private void readThing(int goal) {
            int start = tokens.place;
            int thing = readAnyThing();
            boolean fits = thing == NO_THING || goal == COLUMN_K || thing == goal + 1
                || (goal == COLUMN_J && (thing == ROW_N || thing == ROW_S))
                || (goal == TO_BOXES && thing == SOME_BOX);
            if (!fits) {
                tokens.fail(Tokens.BAD_TYPE, start);
            }
        }

        /** What is known of the THING. */
        private int readAnyThing() {
            switch (tokens.kind) {
                case Tokens.NO_THING:
                    tokens.take();
                    code.emitConstant(Heap.NOTHING);
                    return NO_THING;
                case Tokens.CELL: return readNamed();
                case Tokens.CLONE:
                    int word = tokens.take();
                    int column = tokens.column();
                    emitCell();
                    code.emit(Code.CLONE, 0, 0, word);
                    return knownOfColumn(column);
                case Tokens.NEW: return readNew();
                default: return readNewBox();
            }
        }

        private static int knownOfColumn(int column) {
            return column == COLUMN_K ? UNKNOWN : column + 1;
        }

        private int readNamed() {
            int column = tokens.column();
            int place = emitCell();
            boolean mayHaveIndex = column == COLUMN_I || column == COLUMN_J;
            // These are looked at ahead of what the cell itself may go to.
            boolean wrong = tokens.is(Tokens.IS) || (tokens.is(Tokens.AS) && column != COLUMN_K)
                || (tokens.is('[') && !mayHaveIndex);
            if (wrong) {
                tokens.refuse();
            }
            if (tokens.is(Tokens.AS)) {
                tokens.take();
                int wanted = takeKind(true);
                code.emit(Code.AS, wanted, 0, place);
                return wanted >= BOX ? SOME_BOX : wanted;
            }
            if (tokens.is('[')) {
                readIndex();
                code.emit(Code.READ, 0, 0, place);
                return column == COLUMN_I ? ROW_D : SOME_BOX;
            }
            return knownOfColumn(column);
        }

        private int readNew() {
            int word = tokens.take();
            int lane = (int) tokens.value;
            tokens.take(Tokens.LANE);
            readFor(I);
            if (lane == ROW_I && tokens.is(',')) {
                tokens.take();
                readFor(I);
                code.emit(Code.NEW_ROWS, 0, 0, word);
            } else {
                code.emit(Code.NEW, lane, 0, word);
            }
            return lane;
        }

        private int readNewBox() {
            int kind = takeKind(false);
            readFor(L);
            if (kind != BOX) {
                tokens.take(',');
                readFor(I);
            }
            code.emit(Code.BOX_OF, kind, 0, 0);
            return SOME_BOX;
        }
    }

    /** Reads macros and their statements; a method for one answers whether it can end. */
    private static final class Statements {
        private final Tokens tokens;
        private final Code code;
        private final Expressions expressions;
        private int resultType;

        Statements(Tokens tokens, Code code) {
            this.tokens = tokens;
            this.code = code;
            this.expressions = new Expressions(tokens, code);
        }

        void readMacro() {
            tokens.take(Tokens.MACRO);
            if (!tokens.is(Tokens.NAME)) {
                tokens.refuse();
            } else if (code.findMacro(tokens.value) != NONE) {
                tokens.fail(Tokens.TWICE, tokens.place);
            } else if (code.macros >= Code.MACROS_MOST) {
                tokens.fail(Tokens.MANY, tokens.place);
            }
            code.addMacro(tokens.value);
            tokens.take();
            expressions.forgetNames();
            readParameters();
            resultType = tokens.isBetween(Tokens.FIRST_TYPE, Tokens.LAST_TYPE) ? takeType() : 0;
            code.beginBlock(resultType);
            boolean ends = readBlock();
            if (ends && resultType != 0) {
                tokens.fail(Tokens.BAD_TYPE, tokens.lastPlace);
            }
            code.emit(Code.RETURN, 0, 0, 0);
        }

        private void readParameters() {
            tokens.take('(');
            boolean more = !tokens.is(')');
            for (int turn = 0; turn < Tokens.MOST && more; turn++) {
                readParameter(turn);
                more = tokens.is(',');
                if (more) {
                    tokens.take();
                }
            }
            tokens.take(')');
        }

        private void readParameter(int i) {
            expressions.checkNewName();
            if (i >= Code.PARAMETERS_MOST) {
                tokens.fail(Tokens.MANY, tokens.place);
            }
            long word = tokens.value;
            tokens.take();
            int type = takeType();
            expressions.addName(word, type);
            code.addParameter(type);
        }

        private int takeType() {
            if (!tokens.isBetween(Tokens.FIRST_TYPE, Tokens.LAST_TYPE)) {
                tokens.refuse();
            }
            int type = tokens.kind - Tokens.FIRST_TYPE + I;
            tokens.take();
            return type;
        }

        private boolean readBlock() {
            tokens.openBlock();
            int namesBefore = expressions.nameCount;
            boolean ends = true;
            for (int turn = 0; turn < Tokens.MOST && !tokens.is('}'); turn++) {
                ends = readStatement();
            }
            tokens.closeBlock();
            expressions.nameCount = namesBefore;
            return ends;
        }

        private boolean readStatement() {
            code.emit(Code.STEP, 0, 0, 0);
            switch (tokens.kind) {
                case Tokens.IF: return readIf();
                case Tokens.WHILE: return readWhile();
                case Tokens.TRY: return readTry();
                case Tokens.UNDO: return readUndo();
                case Tokens.FAIL: return readFail();
                case Tokens.RETURN: return readReturn();
                case Tokens.LET: return readLet();
                case Tokens.NAME: return readNameStatement();
                case Tokens.CELL:
                    return tokens.isBehind('[') && tokens.column() != COLUMN_K ? readStore() : readNaming();
                case Tokens.COPY: return readCopy();
                case Tokens.PRINT: return readPrint();
                default:
                    tokens.refuse();
                    return true;
            }
        }

        private boolean readLet() {
            tokens.take();
            expressions.checkNewName();
            long word = tokens.value;
            tokens.take();
            tokens.take('=');
            int type = expressions.readExpression();
            tokens.take(';');
            code.emit(Code.SAVE, expressions.nameCount, 0, 0);
            expressions.addName(word, type);
            return true;
        }

        private boolean readNameStatement() {
            if (tokens.isBehind('(')) {
                int type = expressions.readCall(false);
                if (type != 0) {
                    code.emit(Code.DROP, 0, 0, 0);
                }
            } else {
                int slot = expressions.takeName();
                tokens.take('=');
                expressions.readFor(expressions.nameType(slot));
                code.emit(Code.SAVE, slot, 0, 0);
            }
            tokens.take(';');
            return true;
        }

        private boolean readNaming() {
            int cell = (int) tokens.value;
            int column = tokens.column();
            tokens.take();
            tokens.take('=');
            expressions.readThing(column);
            tokens.take(';');
            code.emit(Code.SET_CELL, cell, 0, 0);
            return true;
        }

        private boolean readStore() {
            int column = tokens.column();
            int place = expressions.emitCell();
            expressions.readIndex();
            int operation = Code.STORE;
            int type = column <= COLUMN_H ? Expressions.typeOfColumn(column) : 0;
            if (column == COLUMN_I && tokens.is('[')) {
                code.emit(Code.READ, 0, 0, place);
                expressions.readIndex();
                type = I;
            } else if (column == COLUMN_J && tokens.is('.')) {
                code.emit(Code.READ, 0, 0, place);
                boolean isNum = expressions.takeNumOrMark();
                operation = isNum ? Code.SET_NUM : Code.SET_MARK;
                type = isNum ? L : I;
            }
            tokens.take('=');
            if (type != 0) {
                expressions.readFor(type);
            } else {
                expressions.readThing(column == COLUMN_I ? COLUMN_D : Expressions.TO_BOXES);
            }
            tokens.take(';');
            code.emit(operation, 0, 0, place);
            return true;
        }

        private boolean readCopy() {
            int word = tokens.take();
            expressions.emitCell();
            tokens.take(',');
            expressions.readFor(I);
            tokens.take(',');
            expressions.emitCell();
            tokens.take(',');
            expressions.readFor(I);
            tokens.take(',');
            expressions.readFor(I);
            tokens.take(';');
            code.emit(Code.COPY, 0, 0, word);
            return true;
        }

        /** A chain of else if is a loop here: it may be longer than calls may go deep. */
        private boolean readIf() {
            boolean ends = false;
            boolean more = true;
            int exits = NONE;
            for (int turn = 0; turn < Tokens.MOST && more; turn++) {
                tokens.take(Tokens.IF);
                expressions.readFor(T);
                int past = code.emit(Code.JUMP_IF_FALSE, 0, 0, 0);
                ends |= readBlock();
                more = false;
                if (tokens.is(Tokens.ELSE)) {
                    tokens.take();
                    exits = code.emit(Code.JUMP, exits, 0, 0);
                    code.aimHere(past);
                    more = tokens.is(Tokens.IF);
                    ends |= !more && readBlock();
                } else {
                    code.aimHere(past);
                    ends = true;
                }
            }
            aimChainHere(exits);
            return ends;
        }

        /** Each jump of the chain holds the one before it until it is aimed. */
        private void aimChainHere(int last) {
            int jump = last;
            for (int turn = 0; turn < Tokens.MOST && jump != NONE; turn++) {
                int before = code.first(jump);
                code.aimHere(jump);
                jump = before;
            }
        }

        private boolean readWhile() {
            tokens.take();
            int head = code.emit(Code.STEP, 0, 0, 0);
            expressions.readFor(T);
            int past = code.emit(Code.JUMP_IF_FALSE, 0, 0, 0);
            readBlock();
            code.emit(Code.JUMP, head, 0, 0);
            code.aimHere(past);
            return true;
        }

        private boolean readTry() {
            tokens.take();
            int start = code.emit(Code.TRY, NONE, NONE, 0);
            boolean ends = readBlock();
            code.emit(Code.LEAVE_TRY, 0, 0, 0);
            int before = NONE;
            for (int turn = 0; turn < Tokens.MOST && tokens.is(Tokens.ON); turn++) {
                int here = code.size;
                if (before == NONE) {
                    code.setFirst(start, here);
                } else {
                    code.setSecond(before, here);
                }
                before = here;
                ends |= readOn();
            }
            boolean alwaysEnds = true;
            if (tokens.is(Tokens.ALWAYS)) {
                tokens.take();
                code.setSecond(start, code.size);
                alwaysEnds = readBlock();
                code.emit(Code.END_ALWAYS, 0, 0, 0);
            } else if (before == NONE) {
                tokens.refuse();
            }
            code.setThird(start, code.size);
            return ends && alwaysEnds;
        }

        private boolean readOn() {
            tokens.take();
            if (!tokens.isBetween(Tokens.FIRST_KIND, Tokens.LAST_KIND)) {
                tokens.refuse();
            }
            int kind = tokens.kind - Tokens.FIRST_KIND + MISSING;
            tokens.take();
            int namesBefore = expressions.nameCount;
            int slot = NONE;
            if (!tokens.is('{')) {
                expressions.checkNewName();
                slot = namesBefore;
                expressions.addName(tokens.value, I);
                tokens.take();
            }
            code.emit(Code.ON, kind, NONE, slot);
            boolean ends = readBlock();
            code.emit(Code.LEAVE_TRY, 0, 0, 0);
            expressions.nameCount = namesBefore;
            return ends;
        }

        private boolean readUndo() {
            tokens.take();
            code.emit(Code.UNDO, 0, 0, 0);
            boolean ends = readBlock();
            code.emit(Code.END_UNDO, 0, 0, 0);
            return ends;
        }

        private boolean readFail() {
            int word = tokens.take();
            expressions.readFor(I);
            tokens.take(';');
            code.emit(Code.FAIL, 0, 0, word);
            return false;
        }

        private boolean readReturn() {
            int word = tokens.take();
            boolean bare = tokens.is(';');
            if (bare != (resultType == 0)) {
                tokens.fail(Tokens.BAD_TYPE, word);
            }
            if (!bare) {
                expressions.readFor(resultType);
            }
            tokens.take(';');
            code.emit(Code.RETURN, bare ? 0 : 1, 0, 0);
            return false;
        }

        private boolean readPrint() {
            tokens.take();
            int type = expressions.readExpression();
            tokens.take(';');
            code.emit(Code.PRINT, type, 0, 0);
            return true;
        }
    }

    /**
     * Cells, rows and boxes. All that can be stored stands in one array, the cells first, so that what was stored can
     * be put back by its index alone. A row or box has a number from 1 on; nothing is ever taken away, as there may be
     * but 8000.
     */
    private static final class Heap {
        static final int NOTHING = 0;
        static final int ROW_MOST = 32;
        private static final int MADE_IN_RUN_MOST = 1000;
        private static final int MADE_IN_ALL_MOST = 8000;
        private static final int KEPT_MOST = 4000;
        private static final int FIRST_ROOM = 64;

        private long[] fields = new long[CELLS + 4 * FIRST_ROOM];
        private int used = CELLS;
        private int[] kinds = new int[FIRST_ROOM];
        private int[] starts = new int[FIRST_ROOM];
        private int[] sizes = new int[FIRST_ROOM];
        private int things;
        private final long[] copied = new long[ROW_MOST];
        int madeInRun;
        int madeInAll;
        private int[] keptIndices = new int[FIRST_ROOM];
        private long[] keptValues = new long[FIRST_ROOM];
        private int keptTop;
        private int keptCount;
        private int undos;

        void beginRun() {
            madeInRun = 0;
            undos = 0;
            keptTop = 0;
            keptCount = 0;
        }

        boolean canMake(int count) {
            return madeInRun + count <= MADE_IN_RUN_MOST && madeInAll + count <= MADE_IN_ALL_MOST;
        }

        /** All elements are 0, false, NONE. Only behind canMake and with a size of at most ROW_MOST. */
        int make(int kind, int size) {
            int thing = things + 1;
            if (thing >= kinds.length) {
                kinds = Arrays.copyOf(kinds, kinds.length * 2);
                starts = Arrays.copyOf(starts, starts.length * 2);
                sizes = Arrays.copyOf(sizes, sizes.length * 2);
            }
            if (used + ROW_MOST > fields.length) {
                fields = Arrays.copyOf(fields, fields.length * 2);
            }
            kinds[thing] = kind;
            starts[thing] = used;
            sizes[thing] = size;
            used += size;
            things = thing;
            madeInRun++;
            madeInAll++;
            return thing;
        }

        int makeBox(int kind, long num, long mark) {
            int box = make(kind, kind == BOX ? 1 : 2);
            set(startOf(box), num);
            if (kind != BOX) {
                set(startOf(box) + 1, mark);
            }
            return box;
        }

        int makeClone(int thing) {
            int clone = make(kindOf(thing), fieldsOf(thing));
            for (int i = 0; i < fieldsOf(thing); i++) {
                set(startOf(clone) + i, get(thing, i));
            }
            return clone;
        }

        int makeRows(int count, int size) {
            int row = make(ROW_I, count);
            for (int i = 0; i < count; i++) {
                set(startOf(row) + i, make(ROW_D, size));
            }
            return row;
        }

        int kindOf(int thing) {
            return thing > 0 && thing <= things && thing < kinds.length ? kinds[thing] : 0;
        }

        boolean isBox(int thing) {
            return kindOf(thing) >= BOX;
        }

        private int startOf(int thing) {
            return thing > 0 && thing <= things && thing < starts.length ? starts[thing] : NONE;
        }

        private int fieldsOf(int thing) {
            return thing > 0 && thing <= things && thing < sizes.length ? sizes[thing] : 0;
        }

        int rowSize(int thing) {
            return isBox(thing) ? 0 : fieldsOf(thing);
        }

        boolean hasPlace(int thing, long i) {
            return i >= 0 && i < fieldsOf(thing);
        }

        private long valueAt(int index) {
            return index >= 0 && index < fields.length ? fields[index] : 0;
        }

        private void set(int index, long value) {
            if (index >= 0 && index < fields.length) {
                fields[index] = value;
            }
        }

        /** Element i of a row; 0 NUM, 1 MARK of a box. */
        long get(int thing, long i) {
            return hasPlace(thing, i) ? valueAt(startOf(thing) + (int) i) : 0;
        }

        int namedBy(int cell) {
            return cell >= 0 && cell < CELLS ? (int) valueAt(cell) : NOTHING;
        }

        int lowestNaming(int thing) {
            for (int cell = 0; cell < CELLS; cell++) {
                if (namedBy(cell) == thing) {
                    return cell;
                }
            }
            return NONE;
        }

        void emptyCells() {
            for (int cell = 0; cell < CELLS; cell++) {
                set(cell, NOTHING);
            }
        }

        private static boolean isLaneOfThings(int kind) {
            return kind >= ROW_I && kind <= ROW_S;
        }

        int innerThing(int thing, int i) {
            return isLaneOfThings(kindOf(thing)) ? (int) get(thing, i) : NOTHING;
        }

        /** An element as element() tells it. */
        long shown(int thing, int i) {
            int kind = kindOf(thing);
            int inner = innerThing(thing, i);
            if (kind == ROW_I) {
                return inner == NOTHING ? NONE : fieldsOf(inner);
            }
            if (isLaneOfThings(kind)) {
                return inner == NOTHING ? 0 : kindOf(inner) - BOX + 1;
            }
            return get(thing, i);
        }

        /** Whether it is of this kind, or of one that counts as it, too. */
        boolean isOne(int thing, int wanted) {
            int kind = kindOf(thing);
            if (wanted == ROW_J || wanted == ROW_N) {
                return kind >= wanted && kind <= ROW_S;
            }
            return wanted == BOX || wanted == NOTE ? kind >= wanted : kind == wanted;
        }

        /** Whether a row of this kind may have the value as an element. */
        boolean canHold(int rowKind, long value) {
            if (!isLaneOfThings(rowKind) || value == NOTHING) {
                return true;
            }
            int wanted = rowKind == ROW_I ? ROW_D : rowKind - ROW_J + BOX;
            return isOne((int) value, wanted);
        }

        private static long fitted(int rowKind, long value) {
            switch (rowKind) {
                case 1: return (byte) value;
                case 2: return (char) value;
                case 3: return (short) value;
                default: return value;
            }
        }

        int beginUndo() {
            if (undos == 0) {
                keptTop = 0;
                keptCount = 0;
            }
            undos++;
            return keptTop;
        }

        void endUndo() {
            undos--;
        }

        void putBack(int mark) {
            for (int i = keptTop - 1; i >= mark && i >= 0; i--) {
                if (i < keptIndices.length) {
                    set(keptIndices[i], keptValues[i]);
                }
            }
            keptTop = Math.max(0, Math.min(keptTop, mark));
        }

        /** Counts what is about to be stored; false if that would be too much. */
        private boolean keep(int count) {
            if (undos == 0) {
                return true;
            }
            if (keptCount + count > KEPT_MOST) {
                return false;
            }
            keptCount += count;
            return true;
        }

        private void write(int index, long value) {
            if (undos > 0) {
                if (keptTop >= keptIndices.length) {
                    keptIndices = Arrays.copyOf(keptIndices, keptIndices.length * 2);
                    keptValues = Arrays.copyOf(keptValues, keptValues.length * 2);
                }
                keptIndices[keptTop] = index;
                keptValues[keptTop] = valueAt(index);
                keptTop++;
            }
            set(index, value);
        }

        /** False, and not done, if too much would be kept. */
        boolean storeCell(int cell, int thing) {
            if (!keep(1)) {
                return false;
            }
            write(cell, thing);
            return true;
        }

        boolean store(int thing, long i, long value) {
            if (!keep(1)) {
                return false;
            }
            if (hasPlace(thing, i)) {
                write(startOf(thing) + (int) i, fitted(kindOf(thing), value));
            }
            return true;
        }

        /** The FAULT of this copy that is seen before anything is copied; 0 without one. */
        int copyFault(int from, long a, int to, long b, long n) {
            if (from == NOTHING || to == NOTHING) {
                return MISSING;
            }
            boolean alike = kindOf(from) == kindOf(to)
                || (isLaneOfThings(kindOf(from)) && isLaneOfThings(kindOf(to)));
            if (isBox(from) || isBox(to) || !alike) {
                return ELEMENT;
            }
            boolean outside = a < 0 || b < 0 || n < 0 || a + n > rowSize(from) || b + n > rowSize(to);
            return outside ? PLACE : 0;
        }

        /** Behind copyFault: how many were copied before one that can't be held; NONE, and not done, if too much. */
        int copy(int from, long a, int to, long b, int n) {
            if (!keep(n)) {
                return NONE;
            }
            for (int i = 0; i < n && i < copied.length; i++) {
                copied[i] = get(from, a + i);
            }
            for (int i = 0; i < n && i < copied.length; i++) {
                if (!canHold(kindOf(to), copied[i])) {
                    return i;
                }
                write(startOf(to) + (int) b + i, copied[i]);
            }
            return n;
        }
    }

    /** What the latest run left to be asked for, and what all runs used up. */
    private static final class Report {
        static final int SHOWN_MOST = 200;

        int answer = NONE;
        long returned;
        int faultKind;
        int faultPlace;
        int faultNumber;
        int steps;
        int stepsInAll;
        int faultsInAll;
        int traced;
        final int[] traceMacros = new int[CALLS_MOST + 1];
        int printed;
        final int[] printedTypes = new int[SHOWN_MOST];
        final long[] printedValues = new long[SHOWN_MOST];

        void beginRun() {
            answer = NONE;
            returned = 0;
            faultKind = 0;
            faultPlace = 0;
            faultNumber = 0;
            steps = 0;
            traced = 0;
            printed = 0;
        }

        void print(int type, long value) {
            if (printed >= 0 && printed < SHOWN_MOST) {
                printedTypes[printed] = type;
                printedValues[printed] = value;
            }
            printed++;
        }

        void addToTrace(int macro) {
            if (traced >= 0 && traced < traceMacros.length) {
                traceMacros[traced] = macro;
                traced++;
            }
        }

        void endByFault(int kind, int place, int number) {
            answer = FAULTED;
            faultKind = kind;
            faultPlace = place;
            faultNumber = number;
        }
    }

    /** What is under way in try and undo, the innermost last. */
    private static final class Guards {
        static final int IN_BLOCK = 1;
        static final int IN_ON = 2;
        static final int IN_ALWAYS = 3;
        static final int IN_UNDO = 4;
        // What an always goes on with, beside the kinds of FAULTS.
        static final int NOTHING_PENDING = 0;
        static final int RETURN_PENDING = -1;
        // No more than 10 BLOCKS in each of 12 calls.
        private static final int MOST = 120;

        private final int[] states = new int[MOST];
        private final int[] calls = new int[MOST];
        private final int[] tries = new int[MOST];
        private final int[] tops = new int[MOST];
        private final int[] pendingKinds = new int[MOST];
        private final int[] pendingPlaces = new int[MOST];
        private final long[] pendingValues = new long[MOST];
        private int last = NONE;

        void forgetAll() {
            last = NONE;
        }

        /** A try has the place of its instruction, an undo what was kept before it. */
        void add(int state, int call, int tryOrMark, int top) {
            if (last >= NONE && last < MOST - 1) {
                last++;
                states[last] = state;
                calls[last] = call;
                tries[last] = tryOrMark;
                tops[last] = top;
            }
        }

        boolean isIn(int call) {
            return last >= 0 && last < MOST && calls[last] == call;
        }

        int state() {
            return last >= 0 && last < MOST ? states[last] : 0;
        }

        int tryOrMark() {
            return last >= 0 && last < MOST ? tries[last] : NONE;
        }

        int top() {
            return last >= 0 && last < MOST ? tops[last] : 0;
        }

        int pendingKind() {
            return last >= 0 && last < MOST ? pendingKinds[last] : NOTHING_PENDING;
        }

        int pendingPlace() {
            return last >= 0 && last < MOST ? pendingPlaces[last] : 0;
        }

        long pendingValue() {
            return last >= 0 && last < MOST ? pendingValues[last] : 0;
        }

        void enterOn() {
            if (last >= 0 && last < MOST) {
                states[last] = IN_ON;
            }
        }

        void enterAlways(int kind, int place, long value) {
            if (last >= 0 && last < MOST) {
                states[last] = IN_ALWAYS;
                pendingKinds[last] = kind;
                pendingPlaces[last] = place;
                pendingValues[last] = value;
            }
        }

        void drop() {
            if (last >= 0) {
                last--;
            }
        }
    }

    /** Works on the instructions. */
    private static final class Machine {
        private static final int STEPS_IN_ALL_MOST = 20000;
        private static final int FAULTS_IN_ALL_MOST = 6000;
        // No call holds more than some 110 numbers: eight at each of 12 that are open, and a statement's own.
        private static final int STACK_MOST = 2048;
        // Beyond 5000 STEPS of a text's whole length each.
        private static final int WORK_MOST = 1000000000;
        private static final int UNWOUND_MOST = 1000;

        private final Code code;
        private final Heap heap;
        private final Report report;
        private final Guards guards = new Guards();
        private final Numbers numbers = new Numbers();
        private final long[] stack = new long[STACK_MOST];
        private int top;
        private final long[] slots = new long[NAMES_MOST * CALLS_MOST];
        private final int[] callers = new int[CALLS_MOST];
        private final int[] macros = new int[CALLS_MOST];
        private final int[] tops = new int[CALLS_MOST];
        private int calls;
        private int next;
        private int stepsMost;

        Machine(Code code, Heap heap, Report report) {
            this.code = code;
            this.heap = heap;
            this.report = report;
        }

        void begin(int macro, int steps) {
            report.beginRun();
            heap.beginRun();
            guards.forgetAll();
            top = 0;
            calls = 0;
            next = 0;
            stepsMost = steps;
            enter(macro);
        }

        /** A parameter of run() as it stands. */
        void handOver(int i, long value) {
            switch (code.parameterType(macroUnderWay(), i)) {
                case I: setSlot(i, (int) value); break;
                case L: setSlot(i, value); break;
                case F: setSlot(i, Soft.singleOfBits(value)); break;
                case D: setSlot(i, Soft.ofBits(value)); break;
                case T: setSlot(i, value != 0 ? 1 : 0); break;
                default: break;
            }
        }

        int work() {
            for (int turn = 0; turn < WORK_MOST && report.answer == NONE; turn++) {
                int at = next;
                next++;
                int operation = code.operation(at);
                if (operation >= Code.FIRST_OF_SHEET) {
                    workOnSheet(operation, code.first(at), code.third(at));
                } else if (operation >= Code.CALL) {
                    workOnWay(operation, at);
                } else {
                    workOnNumbers(operation, code.first(at), code.second(at), code.third(at));
                }
            }
            return report.answer;
        }

        private void workOnNumbers(int operation, int first, int second, int place) {
            switch (operation) {
                case Code.CONSTANT: push(((long) first << 32) | (second & 0xffffffffL)); break;
                case Code.LOAD: push(slot(first)); break;
                case Code.SAVE: setSlot(first, pop()); break;
                case Code.DROP: pop(); break;
                case Code.STEP: step(); break;
                case Code.JUMP: next = first; break;
                case Code.JUMP_IF_FALSE: next = pop() == 0 ? first : next; break;
                case Code.AND: settle(0, first); break;
                case Code.OR: settle(1, first); break;
                case Code.NOT: push(1 - pop()); break;
                case Code.NEGATE: push(Numbers.negate(first, pop())); break;
                case Code.ARITHMETIC: calculate(first, second >> 3, second & 7, place); break;
                case Code.COMPARE: compare(first, second >> 3, second & 7); break;
                case Code.CONVERT: push(Numbers.convert(first, second, pop())); break;
                case Code.FUNCTION: apply(first, second); break;
                default: report.answer = ENDED; break;
            }
        }

        private void workOnWay(int operation, int at) {
            switch (operation) {
                case Code.CALL: call(code.first(at), code.third(at)); break;
                case Code.RETURN: giveBack(code.first(at) != 0 ? pop() : 0); break;
                case Code.FAIL: raise(OWN, code.third(at), (int) pop()); break;
                case Code.PRINT: report.print(code.first(at), pop()); break;
                case Code.TRY: guards.add(Guards.IN_BLOCK, calls, at, top); break;
                case Code.LEAVE_TRY: leaveTry(); break;
                case Code.END_ALWAYS: endAlways(); break;
                case Code.UNDO: guards.add(Guards.IN_UNDO, calls, heap.beginUndo(), top); break;
                case Code.END_UNDO: endUndo(); break;
                default: report.answer = ENDED; break;
            }
        }

        private void workOnSheet(int operation, int first, int place) {
            switch (operation) {
                case Code.CELL: push(heap.namedBy(first)); break;
                case Code.SET_CELL: fullUnless(heap.storeCell(first, popThing())); break;
                case Code.READ: read(place); break;
                case Code.STORE: store(place); break;
                case Code.NUM: readNum(place); break;
                case Code.MARK: readMark(place); break;
                case Code.SET_NUM: storeNum(place); break;
                case Code.SET_MARK: storeMark(place); break;
                case Code.AS: checkKind(first, place); break;
                case Code.IS: push(heap.isOne(popThing(), first) ? 1 : 0); break;
                case Code.CLONE: makeClone(place); break;
                case Code.NEW: makeRow(first, place); break;
                case Code.NEW_ROWS: makeRows(place); break;
                case Code.BOX_OF: makeBox(first); break;
                case Code.SIZE: size(place); break;
                case Code.WORTH: worth(place); break;
                case Code.SAME: push(popThing() == popThing() ? 1 : 0); break;
                case Code.COPY: copy(place); break;
                default: report.answer = ENDED; break;
            }
        }

        private void push(long value) {
            if (top >= 0 && top < STACK_MOST) {
                stack[top] = value;
                top++;
            }
        }

        private long pop() {
            if (top <= 0 || top > STACK_MOST) {
                return 0;
            }
            top--;
            return stack[top];
        }

        private int popThing() {
            return (int) pop();
        }

        private long slot(int slot) {
            int index = (calls - 1) * NAMES_MOST + slot;
            return index >= 0 && index < slots.length ? slots[index] : 0;
        }

        private void setSlot(int slot, long value) {
            int index = (calls - 1) * NAMES_MOST + slot;
            if (index >= 0 && index < slots.length) {
                slots[index] = value;
            }
        }

        private boolean isUnderWay() {
            return calls > 0 && calls <= CALLS_MOST;
        }

        private int macroUnderWay() {
            return isUnderWay() ? macros[calls - 1] : NONE;
        }

        /** False if there was none left. */
        private boolean step() {
            if (report.steps >= stepsMost || report.stepsInAll >= STEPS_IN_ALL_MOST) {
                report.answer = CUT;
                return false;
            }
            report.steps++;
            report.stepsInAll++;
            return true;
        }

        private void fullUnless(boolean done) {
            if (!done) {
                report.answer = FULL;
            }
        }

        /** The truth that settles it stays, and the right side is passed by. */
        private void settle(long settling, int past) {
            long left = pop();
            if (left == settling) {
                push(left);
                next = past;
            }
        }

        private void calculate(int sign, int left, int right, int place) {
            long y = pop();
            long x = pop();
            boolean divides = sign == '/' || sign == '%';
            if (divides && y == 0 && left <= L && right <= L) {
                raise(ZERO, place, 0);
            } else {
                push(Numbers.arithmetic(sign, left, right, x, y));
            }
        }

        private void compare(int sign, int left, int right) {
            long y = pop();
            long x = pop();
            push(Numbers.compares(sign, left, right, x, y) ? 1 : 0);
        }

        private void apply(int function, int types) {
            int operands = Numbers.operandsOf(function);
            long z = operands > 2 ? pop() : 0;
            long y = operands > 1 ? pop() : 0;
            long x = pop();
            push(numbers.apply(function, types, x, y, z));
        }

        private void call(int macro, int place) {
            if (calls >= CALLS_MOST) {
                raise(DEEP, place, 0);
            } else if (step()) {
                int parameters = code.parametersOf(macro);
                top = Math.max(0, top - parameters);
                enter(macro);
                for (int i = 0; i < parameters && top + i < STACK_MOST; i++) {
                    setSlot(i, stack[top + i]);
                }
            }
        }

        private void enter(int macro) {
            if (calls >= 0 && calls < CALLS_MOST) {
                callers[calls] = next;
                macros[calls] = macro;
                tops[calls] = top;
                calls++;
            }
            next = code.entryOf(macro);
        }

        /** A return on its way: each always is done first. */
        private void giveBack(long value) {
            for (int turn = 0; turn < UNWOUND_MOST && guards.isIn(calls); turn++) {
                if (guardAlways(Guards.RETURN_PENDING, 0, value)) {
                    return;
                }
                if (guards.state() == Guards.IN_UNDO) {
                    heap.endUndo();
                }
                guards.drop();
            }
            int type = code.resultOf(macroUnderWay());
            leaveMacro();
            if (calls == 0) {
                report.returned = value;
                report.answer = ENDED;
            } else if (type != 0) {
                push(value);
            }
        }

        private void leaveMacro() {
            if (isUnderWay()) {
                calls--;
                next = callers[calls];
                top = tops[calls];
            }
        }

        /** Goes to the innermost always, if it is a try's that has one and is not in it. */
        private boolean guardAlways(int kind, int place, long value) {
            boolean inTry = guards.state() == Guards.IN_BLOCK || guards.state() == Guards.IN_ON;
            int always = code.second(guards.tryOrMark());
            if (!inTry || always == NONE) {
                return false;
            }
            guards.enterAlways(kind, place, value);
            top = guards.top();
            next = always;
            return true;
        }

        private void leaveTry() {
            if (!guardAlways(Guards.NOTHING_PENDING, 0, 0)) {
                next = code.third(guards.tryOrMark());
                guards.drop();
            }
        }

        private void endAlways() {
            int kind = guards.pendingKind();
            int place = guards.pendingPlace();
            long value = guards.pendingValue();
            guards.drop();
            if (kind == Guards.RETURN_PENDING) {
                giveBack(value);
            } else if (kind != Guards.NOTHING_PENDING) {
                carryUp(kind, place, (int) value);
            }
        }

        private void endUndo() {
            heap.endUndo();
            guards.drop();
        }

        /** A FAULT begins. */
        private void raise(int kind, int place, int number) {
            if (report.faultsInAll >= FAULTS_IN_ALL_MOST) {
                report.answer = FULL;
            } else {
                report.faultsInAll++;
                report.traced = 0;
                carryUp(kind, place, number);
            }
        }

        /** A FAULT on its way: each undo is put back, each always done, till an on takes it. */
        private void carryUp(int kind, int place, int number) {
            for (int turn = 0; turn < UNWOUND_MOST && calls > 0; turn++) {
                if (!guards.isIn(calls)) {
                    report.addToTrace(macroUnderWay());
                    leaveMacro();
                } else if (isTaken(kind, number) || guardAlways(kind, place, number)) {
                    return;
                } else {
                    if (guards.state() == Guards.IN_UNDO) {
                        heap.putBack(guards.tryOrMark());
                        heap.endUndo();
                    }
                    guards.drop();
                }
            }
            report.endByFault(kind, place, number);
        }

        /** By an on of the innermost try. */
        private boolean isTaken(int kind, int number) {
            if (guards.state() != Guards.IN_BLOCK) {
                return false;
            }
            int on = code.first(guards.tryOrMark());
            for (int turn = 0; turn < Tokens.MOST && on != NONE; turn++) {
                if (code.first(on) == kind || code.first(on) == ANY) {
                    guards.enterOn();
                    top = guards.top();
                    next = on + 1;
                    if (code.third(on) != NONE) {
                        setSlot(code.third(on), kind == OWN ? number : kind);
                    }
                    return true;
                }
                on = code.second(on);
            }
            return false;
        }

        /** The FAULT that a place of a row meets, if it does; 0 without one. */
        private int placeFault(int row, long i) {
            if (row == Heap.NOTHING) {
                return MISSING;
            }
            return heap.hasPlace(row, i) ? 0 : PLACE;
        }

        private void read(int place) {
            long i = pop();
            int row = popThing();
            int kind = placeFault(row, i);
            if (kind != 0) {
                raise(kind, place, 0);
            } else {
                push(heap.get(row, i));
            }
        }

        private void store(int place) {
            long value = pop();
            long i = pop();
            int row = popThing();
            int kind = placeFault(row, i);
            if (kind == 0 && !heap.canHold(heap.kindOf(row), value)) {
                kind = ELEMENT;
            }
            if (kind != 0) {
                raise(kind, place, 0);
            } else {
                fullUnless(heap.store(row, i, value));
            }
        }

        /** The FAULT that the MARK of a box meets, if it does; 0 without one. */
        private int markFault(int box) {
            if (box == Heap.NOTHING) {
                return MISSING;
            }
            return heap.isOne(box, NOTE) ? 0 : KIND;
        }

        private void readNum(int place) {
            int box = popThing();
            if (box == Heap.NOTHING) {
                raise(MISSING, place, 0);
            } else {
                push(heap.get(box, 0));
            }
        }

        private void readMark(int place) {
            int box = popThing();
            int kind = markFault(box);
            if (kind != 0) {
                raise(kind, place, 0);
            } else {
                push(heap.get(box, 1));
            }
        }

        private void storeNum(int place) {
            long value = pop();
            int box = popThing();
            if (box == Heap.NOTHING) {
                raise(MISSING, place, 0);
            } else {
                fullUnless(heap.store(box, 0, value));
            }
        }

        private void storeMark(int place) {
            long value = pop();
            int box = popThing();
            int kind = markFault(box);
            if (kind != 0) {
                raise(kind, place, 0);
            } else {
                fullUnless(heap.store(box, 1, value));
            }
        }

        private void checkKind(int wanted, int place) {
            int thing = popThing();
            if (thing != Heap.NOTHING && !heap.isOne(thing, wanted)) {
                raise(KIND, place, 0);
            } else {
                push(thing);
            }
        }

        private void makeClone(int place) {
            int thing = popThing();
            if (thing == Heap.NOTHING) {
                raise(MISSING, place, 0);
            } else if (!heap.canMake(1)) {
                report.answer = FULL;
            } else {
                push(heap.makeClone(thing));
            }
        }

        private void makeRow(int lane, int place) {
            long size = pop();
            if (size < 0) {
                raise(COUNT, place, 0);
            } else if (size > Heap.ROW_MOST || !heap.canMake(1)) {
                report.answer = FULL;
            } else {
                push(heap.make(lane, (int) size));
            }
        }

        private void makeRows(int place) {
            long size = pop();
            long count = pop();
            if (size < 0 || count < 0) {
                raise(COUNT, place, 0);
            } else if (size > Heap.ROW_MOST || count > Heap.ROW_MOST || !heap.canMake((int) count + 1)) {
                report.answer = FULL;
            } else {
                push(heap.makeRows((int) count, (int) size));
            }
        }

        private void makeBox(int kind) {
            long mark = kind == BOX ? 0 : pop();
            long num = pop();
            if (!heap.canMake(1)) {
                report.answer = FULL;
            } else {
                push(heap.makeBox(kind, num, mark));
            }
        }

        private void size(int place) {
            int thing = popThing();
            if (thing == Heap.NOTHING) {
                raise(MISSING, place, 0);
            } else if (heap.isBox(thing)) {
                raise(KIND, place, 0);
            } else {
                push(heap.rowSize(thing));
            }
        }

        private void worth(int place) {
            int box = popThing();
            if (box == Heap.NOTHING) {
                raise(MISSING, place, 0);
            } else {
                long worth = heap.get(box, 0) + heap.get(box, 1);
                push(heap.kindOf(box) == SEAL ? 2 * worth : worth);
            }
        }

        private void copy(int place) {
            long n = pop();
            long b = pop();
            int to = popThing();
            long a = pop();
            int from = popThing();
            int kind = heap.copyFault(from, a, to, b, n);
            if (kind != 0) {
                raise(kind, place, 0);
                return;
            }
            int done = heap.copy(from, a, to, b, (int) n);
            if (done == NONE) {
                report.answer = FULL;
            } else if (done < n) {
                raise(ELEMENT, place, 0);
            }
        }
    }
}
