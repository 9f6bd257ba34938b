/** The edges of the four kinds of numbers, each by a value that is written out here. */
public final class EdgesOfNumbersTest {
    private static final int I = 1;
    private static final int L = 2;
    private static final int F = 3;
    private static final int D = 4;
    private static final int T = 5;
    private static final int IMIN = Integer.MIN_VALUE;
    private static final int IMAX = Integer.MAX_VALUE;
    private static final long LMIN = Long.MIN_VALUE;
    private static final long LMAX = Long.MAX_VALUE;
    private static final long NAN = 0x7ff8000000000000L;
    private static final long FLOAT_NAN = 0x7fc00000L;

    // Texts of numbers that no token can be.
    private static final String IM = "(- 2147483647 - 1)";
    private static final String LM = "(- 9223372036854775807l - 1)";
    private static final String DMAX = bits(Double.MAX_VALUE);
    private static final String DMIN = bits(Double.MIN_VALUE);
    private static final String DNORMAL = bits(Double.MIN_NORMAL);
    private static final String FMAX = bits(Float.MAX_VALUE);
    private static final String FMIN = bits(Float.MIN_VALUE);
    private static final String FNORMAL = bits(Float.MIN_NORMAL);
    private static final String FNAN = "float(nan)";
    private static final String FINF = "float(inf)";

    public static void main(String[] args) {
        goRound();
        divisions();
        byZero();
        nearestEven();
        largest();
        belowTheNormal();
        zeros();
        infinitiesAndNan();
        rests();
        intOfLong();
        intOfReal();
        longOfReal();
        smallOnes();
        becomesFloat();
        becomesDouble();
        comparisons();
        leastAndGreatest();
        wholes();
        rounds();
        roots();
        neighbours();
        exponents();
        signs();
        fused();
        fusedHalves();
        scaled();
        bitsAndReal();
        settled();
        Sheet.end();
    }

    private static String bits(double x) {
        long bits = Double.doubleToLongBits(x);
        return bits < 0 ? "- real(" + (bits & LMAX) + "l)" : "real(" + bits + "l)";
    }

    private static String bits(float x) {
        int bits = Float.floatToIntBits(x);
        return bits < 0 ? "- real(" + (bits & IMAX) + ")" : "real(" + bits + ")";
    }

    private static void due(int type, String expression, long want) {
        LaneSheet sheet = Sheet.of("macro m() { print " + expression + "; }");
        Sheet.due("run of " + expression, sheet.run(0, 5, 0, 0, 0), 0);
        Sheet.due("TYPE of " + expression, Sheet.out(sheet, 0, 0), type);
        Sheet.due(expression, Sheet.out(sheet, 0, 1), want);
    }

    private static void i(String expression, int want) {
        due(I, expression, want);
    }

    private static void l(String expression, long want) {
        due(L, expression, want);
    }

    private static void f(String expression, float want) {
        due(F, expression, Float.floatToIntBits(want));
    }

    private static void d(String expression, double want) {
        due(D, expression, Double.doubleToLongBits(want));
    }

    private static void t(String expression, boolean want) {
        due(T, expression, want ? 1 : 0);
    }

    /** i and l have 32 and 64 bits and go round. */
    private static void goRound() {
        i("2147483646 + 1", IMAX);
        i("2147483647 + 1", IMIN);
        i("2147483647 + 2147483647", -2);
        i("- 2147483647 - 1", IMIN);
        i(IM + " - 1", IMAX);
        i(IM + " + " + IM, 0);
        i("46340 * 46340", 2147395600);
        i("46341 * 46341", -2147479015);
        i("65536 * 65536", 0);
        i("- 2147483647", -IMAX);
        i("- " + IM, IMIN);
        i("- - " + IM, IMIN);
        i(IM + " * - 1", IMIN);
        i(IM + " / - 1", IMIN);
        i(IM + " % - 1", 0);
        i("abs(" + IM + ")", IMIN);
        i("abs(- 2147483647)", IMAX);
        l("2147483647 + 1l", 2147483648L);
        l("2147483647l + 1", 2147483648L);
        l("9223372036854775806l + 1", LMAX);
        l("9223372036854775807l + 1", LMIN);
        l("- 9223372036854775807l - 1", LMIN);
        l(LM + " - 1", LMAX);
        l("3037000499l * 3037000499l", 9223372030926249001L);
        l("3037000500l * 3037000500l", -9223372036709301616L);
        l("4294967296l * 4294967296l", 0);
        l("- " + LM, LMIN);
        l(LM + " * - 1", LMIN);
        l(LM + " / - 1", LMIN);
        l(LM + " % - 1", 0);
        l("abs(" + LM + ")", LMIN);
        l("abs(- 9223372036854775807l)", LMAX);
    }

    /** / goes towards 0, % has the sign of the left one. */
    private static void divisions() {
        i("7 / 2", 3);
        i("- 7 / 2", -3);
        i("7 / - 2", -3);
        i("- 7 / - 2", 3);
        i("7 % 2", 1);
        i("- 7 % 2", -1);
        i("7 % - 2", 1);
        i("- 7 % - 2", -1);
        i("1 / 2", 0);
        i("- 1 / 2", 0);
        i("0 / 5", 0);
        i("0 % 5", 0);
        i("6 % 3", 0);
        i(IM + " / 1", IMIN);
        i(IM + " / " + IM, 1);
        i("2147483647 / " + IM, 0);
        i("2147483647 % " + IM, IMAX);
        i(IM + " % 2147483647", -1);
        l("- 7l / 2", -3);
        l("- 7 % 2l", -1);
        l("7l % - 2l", 1);
        l(LM + " / 2", LMIN / 2);
        l(LM + " % 9223372036854775807l", -1);
        l("9223372036854775807l / 2147483648l", 4294967295L);
    }

    /** By 0 ZERO, at the sign: of i and l alone. */
    private static void byZero() {
        for (String sign : new String[] {"/", "%"}) {
            for (String left : new String[] {"1", "0", "- 1", "1l", "0l", IM, LM}) {
                for (String right : new String[] {"0", "0l", "(1 - 1)", "- 0"}) {
                    Sheet.faulted(6, "print " + left + " ^" + sign + " " + right + ";");
                }
            }
            Sheet.faulted(6, "let n = 0; print 5 / 1 ^" + sign + " n * 2;");
            Sheet.faulted(6, "print 1 + (2 ^" + sign + " 0);");
        }
        i("0 / 1", 0);
        i("1 / 1", 1);
        i("1 % 1", 0);
        i("1 / - 1", -1);
        d("1 / 0.0", Double.POSITIVE_INFINITY);
        d("1.0 / 0", Double.POSITIVE_INFINITY);
        d("- 1.0 / 0l", Double.NEGATIVE_INFINITY);
        d("1 / - 0.0", Double.NEGATIVE_INFINITY);
        d("0 / 0.0", Double.NaN);
        d("1 % 0.0", Double.NaN);
        d("0.0 % 0", Double.NaN);
        f("1 / 0.0f", Float.POSITIVE_INFINITY);
        f("1.0f / 0", Float.POSITIVE_INFINITY);
        f("1l / - 0.0f", Float.NEGATIVE_INFINITY);
        f("0.0f / 0", Float.NaN);
        f("5.0f % 0l", Float.NaN);
    }

    /** f and d to the nearest, a half to the even one. */
    private static void nearestEven() {
        f("16777216.0f + 1", 16777216f);
        f("16777216.0f + 2", 16777218f);
        f("16777218.0f + 1", 16777220f);
        f("16777216.0f + 1.0f + 1.0f", 16777216f);
        f("16777217.0f", 16777216f);
        f("16777219.0f", 16777220f);
        f("- 16777217.0f", -16777216f);
        f("1.0f + 0.00000005f", 1f);
        f("1.0f + 0.00000007f", 1.0000001f);
        d("9007199254740992l + 1.0", 9007199254740992d);
        d("9007199254740992l + 2.0", 9007199254740994d);
        d("9007199254740994l + 1.0", 9007199254740996d);
        d("0.1 + 0.2", 0.30000000000000004);
        d("0.3 - 0.1", 0.19999999999999998);
        d("0.1 * 3", 0.30000000000000004);
        d("1.0 / 3", 0.3333333333333333);
        d("2.0 / 3", 0.6666666666666666);
        d("1.0 / 10", 0.1);
        d("1.0 + " + bits(Math.scalb(1.0, -53)), 1.0);
        d("1.0 + " + bits(Math.nextUp(Math.scalb(1.0, -53))), Math.nextUp(1.0));
        d("1.0 + " + bits(Math.scalb(3.0, -53)), 1.0 + Math.scalb(1.0, -51));
        d("1.0 - " + bits(Math.scalb(1.0, -54)), 1.0);
        d("1.0 - " + bits(Math.scalb(1.0, -53)), Math.nextDown(1.0));
        d("1.0 - " + bits(Math.nextUp(Math.scalb(1.0, -54))), Math.nextDown(1.0));
        // An f is not worked on as a d.
        f("16777216.0f + 1.0f - 16777216.0f", 0f);
        d("16777216.0f + 1.0 - 16777216.0f", 1.0);
        f("0.1f + 0.2f", 0.1f + 0.2f);
        f("1.0f / 3", 0.33333334f);
        f("0.1f * 0.1f", 0.010000001f);
    }

    /** Beyond the greatest one are the infinities. */
    private static void largest() {
        d(DMAX + " + " + bits(Math.scalb(1.0, 969)), Double.MAX_VALUE);
        d(DMAX + " + " + bits(Math.nextDown(Math.scalb(1.0, 970))), Double.MAX_VALUE);
        d(DMAX + " + " + bits(Math.scalb(1.0, 970)), Double.POSITIVE_INFINITY);
        d(bits(-Double.MAX_VALUE) + " - " + bits(Math.scalb(1.0, 970)), Double.NEGATIVE_INFINITY);
        d(DMAX + " * 1", Double.MAX_VALUE);
        d(DMAX + " * 2", Double.POSITIVE_INFINITY);
        d(DMAX + " * - 2", Double.NEGATIVE_INFINITY);
        d(DMAX + " / 0.5", Double.POSITIVE_INFINITY);
        d(DMAX + " - " + DMAX, 0.0);
        f(FMAX + " + " + bits(Math.scalb(1.0f, 102)), Float.MAX_VALUE);
        f(FMAX + " + " + bits(Math.nextDown(Math.scalb(1.0f, 103))), Float.MAX_VALUE);
        f(FMAX + " + " + bits(Math.scalb(1.0f, 103)), Float.POSITIVE_INFINITY);
        f(FMAX + " * 2", Float.POSITIVE_INFINITY);
        f(FMAX + " * - 2", Float.NEGATIVE_INFINITY);
        d(FMAX + " * 2.0", Float.MAX_VALUE * 2.0);
    }

    private static void belowTheNormal() {
        d(DMIN + " / 2", 0.0);
        d("- " + DMIN + " / 2", -0.0);
        d(DMIN + " * 0.75", Double.MIN_VALUE);
        d(DMIN + " * 1.5", 2 * Double.MIN_VALUE);
        d(DMIN + " * 2.5", 2 * Double.MIN_VALUE);
        d(DMIN + " + " + DMIN, 2 * Double.MIN_VALUE);
        d(DMIN + " - " + DMIN, 0.0);
        d(DNORMAL + " - " + DMIN, Double.longBitsToDouble(0x000fffffffffffffL));
        d(DNORMAL + " / 2", Double.longBitsToDouble(0x0008000000000000L));
        d(bits(Double.longBitsToDouble(0x000fffffffffffffL)) + " + " + DMIN, Double.MIN_NORMAL);
        d(bits(Math.scalb(1.0, -537)) + " * " + bits(Math.scalb(1.0, -537)), Double.MIN_VALUE);
        d(bits(Math.scalb(1.0, -538)) + " * " + bits(Math.scalb(1.0, -537)), 0.0);
        d(DMIN + " / " + DMIN, 1.0);
        d("1.0 / " + DMIN, Double.POSITIVE_INFINITY);
        f(FMIN + " / 2", 0f);
        f("- " + FMIN + " / 2", -0f);
        f(FMIN + " * 0.75f", Float.MIN_VALUE);
        f(FMIN + " * 1.5f", 2 * Float.MIN_VALUE);
        f(FNORMAL + " - " + FMIN, Float.intBitsToFloat(0x007fffff));
        f(FNORMAL + " / 2", Float.intBitsToFloat(0x00400000));
        d(FMIN + " / 2.0", Float.MIN_VALUE / 2.0);
        t(DMIN + " > 0", true);
        t("- " + DMIN + " < 0", true);
        t(FMIN + " > 0", true);
    }

    /** -0 and 0. */
    private static void zeros() {
        d("0.0", 0.0);
        d("- 0.0", -0.0);
        d("- - 0.0", 0.0);
        d("0.0 + - 0.0", 0.0);
        d("- 0.0 + 0.0", 0.0);
        d("- 0.0 + - 0.0", -0.0);
        d("0.0 - 0.0", 0.0);
        d("- 0.0 - 0.0", -0.0);
        d("- 0.0 - - 0.0", 0.0);
        d("1.0 - 1.0", 0.0);
        d("- 1.0 + 1.0", 0.0);
        d("0.0 * - 1", -0.0);
        d("- 0.0 * - 1", 0.0);
        d("0.0 / - 5", -0.0);
        d("- 0.0 / 5", -0.0);
        d("- 1 / inf", -0.0);
        d("abs(- 0.0)", 0.0);
        d("- 0 + 0.0 * - 1", 0.0);
        f("- 0.0f", -0f);
        f("- 0.0f + 0.0f", 0f);
        f("0.0f * - 1", -0f);
        f("float(- 0.0)", -0f);
        d("double(- 0.0f)", -0.0);
        i("int(- 0.0)", 0);
        l("long(- 0.0f)", 0);
        d("double(- 0)", 0.0);
        t("- 0.0 == 0.0", true);
        t("- 0.0 != 0", false);
        t("- 0.0 < 0.0", false);
        t("- 0.0 <= 0.0", true);
        t("0.0 > - 0.0", false);
        t("- 0.0f == 0", true);
    }

    private static void infinitiesAndNan() {
        d("inf", Double.POSITIVE_INFINITY);
        d("- inf", Double.NEGATIVE_INFINITY);
        d("inf + 1", Double.POSITIVE_INFINITY);
        d("inf + inf", Double.POSITIVE_INFINITY);
        d("inf - inf", Double.NaN);
        d("- inf + inf", Double.NaN);
        d("inf * - 2", Double.NEGATIVE_INFINITY);
        d("inf * 0", Double.NaN);
        d("0.0 * - inf", Double.NaN);
        d("inf / inf", Double.NaN);
        d("inf / 0", Double.POSITIVE_INFINITY);
        d("5 / inf", 0.0);
        d("nan", Double.NaN);
        due(D, "- nan", NAN);
        due(D, "abs(- nan)", NAN);
        due(D, "nan + 1", NAN);
        due(D, "1 - nan", NAN);
        due(D, "nan * 0", NAN);
        due(D, "nan / nan", NAN);
        due(D, "inf % nan", NAN);
        due(F, FNAN, FLOAT_NAN);
        due(F, "- " + FNAN, FLOAT_NAN);
        due(F, FINF + " - " + FINF, FLOAT_NAN);
        due(F, FINF + " * 0", FLOAT_NAN);
        f(FINF, Float.POSITIVE_INFINITY);
        f("- " + FINF, Float.NEGATIVE_INFINITY);
        d("double(" + FINF + ")", Double.POSITIVE_INFINITY);
        due(D, "double(" + FNAN + ")", NAN);
    }

    /** % is the rest of a / b cut towards 0, exactly. */
    private static void rests() {
        d("5.5 % 2", 1.5);
        d("- 5.5 % 2", -1.5);
        d("5.5 % - 2", 1.5);
        d("- 5.5 % - 2", -1.5);
        d("4.0 % 2", 0.0);
        d("- 4.0 % 2", -0.0);
        d("- 0.0 % 1", -0.0);
        d("1.0 % 2", 1.0);
        d("2.0 % inf", 2.0);
        d("- 2.0 % inf", -2.0);
        d("inf % 2", Double.NaN);
        d("nan % 2", Double.NaN);
        d("1.0 % 0.1", 0.09999999999999995);
        d(DMAX + " % 3", 2.0);
        d(DMAX + " % " + DMIN, 0.0);
        d(DMAX + " % " + bits(Double.longBitsToDouble(3L)), Double.MAX_VALUE % Double.longBitsToDouble(3L));
        d(DNORMAL + " % " + bits(Double.longBitsToDouble(7L)), Double.MIN_NORMAL % Double.longBitsToDouble(7L));
        d(DMIN + " % " + DMIN, 0.0);
        f("5.5f % 2", 1.5f);
        f("- 5.5f % 2l", -1.5f);
        f("1.0f % 0.1f", 1.0f % 0.1f);
        f(FMAX + " % " + FMIN, 0f);
        f(FMAX + " % 7", Float.MAX_VALUE % 7);
    }

    /** int of l: its lowest 32 bits. */
    private static void intOfLong() {
        i("int(2147483647l)", IMAX);
        i("int(2147483648l)", IMIN);
        i("int(- 2147483648l)", IMIN);
        i("int(- 2147483649l)", IMAX);
        i("int(4294967295l)", -1);
        i("int(4294967296l)", 0);
        i("int(9223372036854775807l)", -1);
        i("int(" + LM + ")", 0);
        i("int(5)", 5);
        l("long(" + IM + ")", IMIN);
        l("long(- 5l)", -5);
    }

    /** Cut towards 0, the ends of what they can be beyond, 0 of nan. */
    private static void intOfReal() {
        i("int(0.99)", 0);
        i("int(- 0.99)", 0);
        i("int(1.0)", 1);
        i("int(1.99)", 1);
        i("int(- 1.99)", -1);
        i("int(- 2.0)", -2);
        i("int(2147483646.99)", 2147483646);
        i("int(2147483647.0)", IMAX);
        i("int(2147483647.99)", IMAX);
        i("int(2147483648.0)", IMAX);
        i("int(9999999999.9)", IMAX);
        i("int(- 2147483647.99)", -2147483647);
        i("int(- 2147483648.0)", IMIN);
        i("int(- 2147483648.99)", IMIN);
        i("int(- 2147483649.0)", IMIN);
        i("int(" + DMAX + ")", IMAX);
        i("int(inf)", IMAX);
        i("int(- inf)", IMIN);
        i("int(nan)", 0);
        i("int(" + DMIN + ")", 0);
        i("int(0.99f)", 0);
        i("int(- 1.5f)", -1);
        i("int(2147483520.0f)", 2147483520);
        i("int(2147483648.0f)", IMAX);
        i("int(- 2147483648.0f)", IMIN);
        i("int(- 2147483904.0f)", IMIN);
        i("int(" + FMAX + ")", IMAX);
        i("int(" + FINF + ")", IMAX);
        i("int(- " + FINF + ")", IMIN);
        i("int(" + FNAN + ")", 0);
    }

    private static void longOfReal() {
        double below = Math.nextDown(0x1p63);
        l("long(" + bits(below) + ")", 9223372036854774784L);
        l("long(" + bits(0x1p63) + ")", LMAX);
        l("long(" + bits(-below) + ")", -9223372036854774784L);
        l("long(" + bits(-0x1p63) + ")", LMIN);
        l("long(" + bits(Math.nextDown(-0x1p63)) + ")", LMIN);
        l("long(" + bits(0x1p62) + ")", 1L << 62);
        l("long(" + bits(0x1p52) + ")", 1L << 52);
        l("long(" + bits(0x1p53 + 2) + ")", (1L << 53) + 2);
        l("long(4503599627370.5)", 4503599627370L);
        l("long(0.9)", 0);
        l("long(- 0.9)", 0);
        l("long(- 1.9)", -1);
        l("long(2147483648.5)", 2147483648L);
        l("long(inf)", LMAX);
        l("long(- inf)", LMIN);
        l("long(nan)", 0);
        l("long(" + bits(Math.nextDown(0x1p63f)) + ")", 9223371487098961920L);
        l("long(" + bits(0x1p63f) + ")", LMAX);
        l("long(" + bits(-0x1p63f) + ")", LMIN);
        l("long(" + bits(Math.nextDown(-0x1p63f)) + ")", LMIN);
        l("long(" + FINF + ")", LMAX);
        l("long(- " + FINF + ")", LMIN);
        l("long(" + FNAN + ")", 0);
    }

    /** byte, short, sign: those of int, of it the lowest bits. */
    private static void smallOnes() {
        i("byte(127)", 127);
        i("byte(128)", -128);
        i("byte(255)", -1);
        i("byte(256)", 0);
        i("byte(- 128)", -128);
        i("byte(- 129)", 127);
        i("byte(4294967423l)", 127);
        i("byte(4294967424l)", -128);
        i("byte(127.9)", 127);
        i("byte(128.0f)", -128);
        i("byte(9999999999.0)", -1);
        i("byte(- inf)", 0);
        i("byte(nan)", 0);
        i("short(32767)", 32767);
        i("short(32768)", -32768);
        i("short(65535)", -1);
        i("short(65536)", 0);
        i("short(- 32768)", -32768);
        i("short(- 32769)", 32767);
        i("short(4295000063l)", 32767);
        i("short(32768.5)", -32768);
        i("short(inf)", -1);
        i("short(" + FNAN + ")", 0);
        i("sign(65535)", 65535);
        i("sign(65536)", 0);
        i("sign(- 1)", 65535);
        i("sign(0)", 0);
        i("sign(- 65535)", 1);
        i("sign(- 65536)", 0);
        i("sign(4294967295l)", 65535);
        i("sign(65535.9)", 65535);
        i("sign(- 1.0f)", 65535);
        i("sign(inf)", 65535);
        i("sign(- inf)", 0);
    }

    /** A number that becomes f or d is the nearest. */
    private static void becomesFloat() {
        f("float(16777216)", 16777216f);
        f("float(16777217)", 16777216f);
        f("float(16777218)", 16777218f);
        f("float(16777219)", 16777220f);
        f("float(2147483583)", 2147483520f);
        f("float(2147483584)", 2147483648f);
        f("float(2147483647)", 2147483648f);
        f("float(" + IM + ")", -2147483648f);
        f("float(9223372036854775807l)", 0x1p63f);
        f("float(" + LM + ")", -0x1p63f);
        f("float(9223371761976868863l)", Math.nextDown(0x1p63f));
        f("float(9223371761976868864l)", 0x1p63f);
        // Once, not by way of a d.
        f("float(9007199791611905l)", 9007200328482816f);
        f("float(0l)", 0f);
        f("float(0.1)", 0.1f);
        f("float(" + bits(1 + 0x1p-24) + ")", 1f);
        f("float(" + bits(Math.nextUp(1 + 0x1p-24)) + ")", 1 + 0x1p-23f);
        f("float(" + bits(1 + 0x3p-24) + ")", 1 + 0x2p-23f);
        f("float(" + bits(Double.longBitsToDouble(0x47efffffefffffffL)) + ")", Float.MAX_VALUE);
        f("float(" + bits(Double.longBitsToDouble(0x47effffff0000000L)) + ")", Float.POSITIVE_INFINITY);
        f("float(" + bits(-Double.longBitsToDouble(0x47effffff0000000L)) + ")", Float.NEGATIVE_INFINITY);
        f("float(" + DMAX + ")", Float.POSITIVE_INFINITY);
        f("float(" + bits(0x1p-149) + ")", Float.MIN_VALUE);
        f("float(" + bits(0x1p-150) + ")", 0f);
        f("float(" + bits(Math.nextUp(0x1p-150)) + ")", Float.MIN_VALUE);
        f("float(" + bits(0x3p-150) + ")", 2 * Float.MIN_VALUE);
        f("float(" + bits(-0x1p-150) + ")", -0f);
        f("float(" + DMIN + ")", 0f);
        f("float(inf)", Float.POSITIVE_INFINITY);
        Sheet.ran("F0 = new F 2; F0[0] = 16777217; F0[1] = 9223372036854775807l; print int(F0[0]); print long(F0[1]);"
            + " let x = 0.5f; x = 16777219; print int(x);", "16777216 9223372036854775807 16777220");
    }

    private static void becomesDouble() {
        d("double(2147483647)", 2147483647d);
        d("double(" + IM + ")", -2147483648d);
        d("double(9007199254740991l)", 9007199254740991d);
        d("double(9007199254740992l)", 9007199254740992d);
        d("double(9007199254740993l)", 9007199254740992d);
        d("double(9007199254740994l)", 9007199254740994d);
        d("double(9007199254740995l)", 9007199254740996d);
        d("double(- 9007199254740993l)", -9007199254740992d);
        d("double(9223372036854775807l)", 0x1p63);
        d("double(9223372036854775295l)", Math.nextDown(0x1p63));
        d("double(9223372036854775296l)", 0x1p63);
        d("double(" + LM + ")", -0x1p63);
        d("double(0.1f)", (double) 0.1f);
        d("double(" + FMIN + ")", (double) Float.MIN_VALUE);
        d("double(" + FMAX + ")", (double) Float.MAX_VALUE);
        d("double(" + FNORMAL + ")", (double) Float.MIN_NORMAL);
        d("double(1.5)", 1.5);
        // The double nearest to a D; of an F that double made a float.
        d("0.00000000000000", 0.0);
        f("0.00000000000001f", 0.00000000000001f);
        d("99999999999999.0", 99999999999999.0);
        d("99999999999999.9", 99999999999999.9);
        d("0.00000000000001", 1e-14);
        d("0.30000000000001", 0.30000000000001);
        f("16777217.0f", 16777216f);
        f("99999999999999.9f", (float) 99999999999999.9);
    }

    /** With nan < <= > >= == are false, != true. */
    private static void comparisons() {
        String[] nans = {"nan", FNAN};
        String[] others = {"nan", FNAN, "1", "1l", "1.0f", "1.0", "inf", "- inf", "0.0"};
        for (String nan : nans) {
            for (String other : others) {
                for (String sign : new String[] {"<", "<=", ">", ">=", "==", "!="}) {
                    t(nan + " " + sign + " " + other, sign.equals("!="));
                    t(other + " " + sign + " " + nan, sign.equals("!="));
                }
            }
        }
        t("inf > " + DMAX, true);
        t("- inf < " + bits(-Double.MAX_VALUE), true);
        t("inf == inf", true);
        t("inf == - inf", false);
        t("- inf < inf", true);
        t(FINF + " == inf", true);
        t("1 < 2", true);
        t("1 < 1", false);
        t("1 <= 1", true);
        t("2 <= 1", false);
        t("1 > 1", false);
        t("2 > 1", true);
        t("1 >= 1", true);
        t("0 >= 1", false);
        t("1 == 1", true);
        t("1 == 2", false);
        t("1 != 1", false);
        t("1 != 2", true);
        t(IM + " < 2147483647", true);
        t(LM + " < 9223372036854775807l", true);
        t("2147483648l > 2147483647", true);
        t("- 1.5 < - 1.25", true);
        t("- 1.5f > - 1.75f", true);
        t("- 1.5f < 1.5f", true);
        t("1.5 == 1.5f", true);
        t("0.1 == 0.1f", false);
        t("true == true", true);
        t("true == false", false);
        t("true != false", true);
        t("false != false", false);
    }

    /** min, max with nan nan, -0 below 0. */
    private static void leastAndGreatest() {
        i("min(1, 2)", 1);
        i("max(1, 2)", 2);
        i("min(2, 1)", 1);
        i("max(2, 1)", 2);
        i("min(" + IM + ", 2147483647)", IMIN);
        i("max(" + IM + ", 2147483647)", IMAX);
        l("min(" + LM + ", 9223372036854775807l)", LMIN);
        l("max(" + LM + ", 9223372036854775807l)", LMAX);
        l("min(1, 2l)", 1);
        d("min(0.0, - 0.0)", -0.0);
        d("min(- 0.0, 0.0)", -0.0);
        d("max(0.0, - 0.0)", 0.0);
        d("max(- 0.0, 0.0)", 0.0);
        d("min(- 0.0, 0)", -0.0);
        d("max(- 0.0, 0)", 0.0);
        d("max(- 0.0, - 0.0)", -0.0);
        d("min(nan, 1)", Double.NaN);
        d("min(1, nan)", Double.NaN);
        d("max(nan, 1)", Double.NaN);
        d("max(1, nan)", Double.NaN);
        d("max(nan, inf)", Double.NaN);
        d("min(- inf, nan)", Double.NaN);
        d("max(inf, 1)", Double.POSITIVE_INFINITY);
        d("min(1, - inf)", Double.NEGATIVE_INFINITY);
        d("min(- 1.5, - 1.25)", -1.5);
        d("max(- 1.5, - 1.25)", -1.25);
        f("min(0.0f, - 0.0f)", -0f);
        f("min(- 0.0f, 0.0f)", -0f);
        f("max(0.0f, - 0.0f)", 0f);
        f("max(- 0.0f, 0.0f)", 0f);
        f("min(" + FNAN + ", 1)", Float.NaN);
        f("min(1, " + FNAN + ")", Float.NaN);
        f("max(1l, " + FNAN + ")", Float.NaN);
        f("max(- 1.5f, - 1.25f)", -1.25f);
        f("max(16777217, 1.0f)", 16777216f);
        f("abs(- 1.5f)", 1.5f);
        f("abs(- " + FINF + ")", Float.POSITIVE_INFINITY);
        d("abs(- inf)", Double.POSITIVE_INFINITY);
        i("abs(- 5)", 5);
        i("abs(5)", 5);
    }

    private static void wholes() {
        String[] given = {"0.0", "- 0.0", "0.5", "- 0.5", "1.5", "- 1.5", "2.5", "- 2.5", "0.49", "- 0.51", "1.0", "- 3.0",
            "inf", "- inf", "nan", DMIN, "- " + DMIN, DMAX, bits(0x1p52 - 0.5), bits(0x1p52 - 1.5), bits(0x1p52 + 1),
            bits(0x1p51 + 0.5), bits(0x1p51 + 1.5), bits(-(0x1p51 + 0.5)), bits(Math.nextDown(0.5)), bits(Math.nextUp(0.5)),
            bits(Math.nextDown(1.0)), bits(-Math.nextDown(1.0)), DNORMAL};
        double[] floor = {0.0, -0.0, 0.0, -1.0, 1.0, -2.0, 2.0, -3.0, 0.0, -1.0, 1.0, -3.0,
            Double.POSITIVE_INFINITY, Double.NEGATIVE_INFINITY, Double.NaN, 0.0, -1.0, Double.MAX_VALUE, 0x1p52 - 1, 0x1p52 - 2,
            0x1p52 + 1, 0x1p51, 0x1p51 + 1, -(0x1p51 + 1), 0.0, 0.0, 0.0, -1.0, 0.0};
        double[] ceil = {0.0, -0.0, 1.0, -0.0, 2.0, -1.0, 3.0, -2.0, 1.0, -0.0, 1.0, -3.0,
            Double.POSITIVE_INFINITY, Double.NEGATIVE_INFINITY, Double.NaN, 1.0, -0.0, Double.MAX_VALUE, 0x1p52, 0x1p52 - 1,
            0x1p52 + 1, 0x1p51 + 1, 0x1p51 + 2, -0x1p51, 1.0, 1.0, 1.0, -0.0, 1.0};
        double[] rint = {0.0, -0.0, 0.0, -0.0, 2.0, -2.0, 2.0, -2.0, 0.0, -1.0, 1.0, -3.0,
            Double.POSITIVE_INFINITY, Double.NEGATIVE_INFINITY, Double.NaN, 0.0, -0.0, Double.MAX_VALUE, 0x1p52, 0x1p52 - 2,
            0x1p52 + 1, 0x1p51, 0x1p51 + 2, -0x1p51, 0.0, 1.0, 1.0, -1.0, 0.0};
        for (int k = 0; k < given.length; k++) {
            d("floor(" + given[k] + ")", floor[k]);
            d("ceil(" + given[k] + ")", ceil[k]);
            d("rint(" + given[k] + ")", rint[k]);
        }
        d("floor(- 1.5f)", -2.0);
        d("ceil(5)", 5.0);
        d("rint(9007199254740993l)", 9007199254740992d);
    }

    /** round: the nearest, a half up; as int, long of f, d. */
    private static void rounds() {
        l("round(0.5)", 1);
        l("round(- 0.5)", 0);
        l("round(" + bits(Math.nextDown(0.5)) + ")", 0);
        l("round(" + bits(-Math.nextUp(0.5)) + ")", -1);
        l("round(1.5)", 2);
        l("round(2.5)", 3);
        l("round(- 1.5)", -1);
        l("round(- 2.5)", -2);
        l("round(- 2.51)", -3);
        l("round(2.49)", 2);
        l("round(" + bits(0x1p52 - 0.5) + ")", 1L << 52);
        l("round(" + bits(0x1p52 + 1) + ")", (1L << 52) + 1);
        l("round(" + bits(-(0x1p51 + 0.5)) + ")", -(1L << 51));
        l("round(" + bits(Math.nextDown(0x1p63)) + ")", 9223372036854774784L);
        l("round(" + bits(0x1p63) + ")", LMAX);
        l("round(" + bits(-0x1p63) + ")", LMIN);
        l("round(inf)", LMAX);
        l("round(- inf)", LMIN);
        l("round(nan)", 0);
        l("round(- 0.0)", 0);
        l("round(2147483647.5)", 2147483648L);
        i("round(0.5f)", 1);
        i("round(- 0.5f)", 0);
        i("round(" + bits(Math.nextDown(0.5f)) + ")", 0);
        i("round(2.5f)", 3);
        i("round(- 2.5f)", -2);
        i("round(8388607.5f)", 8388608);
        i("round(8388609.0f)", 8388609);
        i("round(2147483520.0f)", 2147483520);
        i("round(2147483648.0f)", IMAX);
        i("round(- 2147483648.0f)", IMIN);
        i("round(" + FINF + ")", IMAX);
        i("round(- " + FINF + ")", IMIN);
        i("round(" + FNAN + ")", 0);
    }

    private static void roots() {
        d("sqrt(4)", 2.0);
        d("sqrt(2)", 1.4142135623730951);
        d("sqrt(3.0f)", 1.7320508075688772);
        d("sqrt(0.25)", 0.5);
        d("sqrt(0.0)", 0.0);
        d("sqrt(- 0.0)", -0.0);
        d("sqrt(- 1)", Double.NaN);
        d("sqrt(- " + DMIN + ")", Double.NaN);
        d("sqrt(- inf)", Double.NaN);
        d("sqrt(inf)", Double.POSITIVE_INFINITY);
        d("sqrt(nan)", Double.NaN);
        d("sqrt(" + DMIN + ")", 0x1p-537);
        d("sqrt(" + DMAX + ")", 1.3407807929942596e154);
        d("sqrt(" + DNORMAL + ")", 0x1p-511);
        d("sqrt(9223372036854775807l)", Math.sqrt(0x1p63));
        d("sqrt(" + bits(Math.nextDown(1.0)) + ")", Math.nextDown(1.0));
        d("sqrt(" + bits(Math.nextUp(1.0)) + ")", 1.0);
    }

    /** up (the next one above), down, ulp. */
    private static void neighbours() {
        d("up(0.0)", Double.MIN_VALUE);
        d("up(- 0.0)", Double.MIN_VALUE);
        d("down(0.0)", -Double.MIN_VALUE);
        d("down(- 0.0)", -Double.MIN_VALUE);
        d("up(- " + DMIN + ")", -0.0);
        d("down(" + DMIN + ")", 0.0);
        d("up(1)", Math.nextUp(1.0));
        d("down(1l)", Math.nextDown(1.0));
        d("up(- 1.0)", Math.nextUp(-1.0));
        d("up(" + DMAX + ")", Double.POSITIVE_INFINITY);
        d("down(- " + DMAX + ")", Double.NEGATIVE_INFINITY);
        d("up(inf)", Double.POSITIVE_INFINITY);
        d("up(- inf)", -Double.MAX_VALUE);
        d("down(inf)", Double.MAX_VALUE);
        d("down(- inf)", Double.NEGATIVE_INFINITY);
        due(D, "up(nan)", NAN);
        due(D, "down(nan)", NAN);
        d("down(" + DNORMAL + ")", Double.longBitsToDouble(0x000fffffffffffffL));
        f("up(0.0f)", Float.MIN_VALUE);
        f("up(- 0.0f)", Float.MIN_VALUE);
        f("down(0.0f)", -Float.MIN_VALUE);
        f("down(- 0.0f)", -Float.MIN_VALUE);
        f("up(- " + FMIN + ")", -0f);
        f("up(1.0f)", Math.nextUp(1f));
        f("down(1.0f)", Math.nextDown(1f));
        f("up(" + FMAX + ")", Float.POSITIVE_INFINITY);
        f("down(- " + FMAX + ")", Float.NEGATIVE_INFINITY);
        f("up(" + FINF + ")", Float.POSITIVE_INFINITY);
        f("down(" + FINF + ")", Float.MAX_VALUE);
        f("up(- " + FINF + ")", -Float.MAX_VALUE);
        f("down(- " + FINF + ")", Float.NEGATIVE_INFINITY);
        due(F, "up(" + FNAN + ")", FLOAT_NAN);
        due(F, "down(" + FNAN + ")", FLOAT_NAN);
        d("ulp(0.0)", Double.MIN_VALUE);
        d("ulp(- 0.0)", Double.MIN_VALUE);
        d("ulp(" + DMIN + ")", Double.MIN_VALUE);
        d("ulp(" + DNORMAL + ")", Double.MIN_VALUE);
        d("ulp(" + bits(2 * Double.MIN_NORMAL) + ")", 2 * Double.MIN_VALUE);
        d("ulp(1)", 0x1p-52);
        d("ulp(- 1.0)", 0x1p-52);
        d("ulp(" + bits(Math.nextDown(1.0)) + ")", 0x1p-53);
        d("ulp(" + DMAX + ")", 0x1p971);
        d("ulp(- inf)", Double.POSITIVE_INFINITY);
        due(D, "ulp(nan)", NAN);
        f("ulp(0.0f)", Float.MIN_VALUE);
        f("ulp(" + FNORMAL + ")", Float.MIN_VALUE);
        f("ulp(- 1.0f)", 0x1p-23f);
        f("ulp(" + FMAX + ")", 0x1p104f);
        f("ulp(- " + FINF + ")", Float.POSITIVE_INFINITY);
        due(F, "ulp(" + FNAN + ")", FLOAT_NAN);
    }

    /** Of 0 and below the normal ones one less than the least, of nan and infinities one more than the greatest. */
    private static void exponents() {
        i("exponent(0.0)", -1023);
        i("exponent(- 0.0)", -1023);
        i("exponent(" + DMIN + ")", -1023);
        i("exponent(" + bits(Double.longBitsToDouble(0x000fffffffffffffL)) + ")", -1023);
        i("exponent(" + DNORMAL + ")", -1022);
        i("exponent(0.5)", -1);
        i("exponent(1)", 0);
        i("exponent(- 1.99)", 0);
        i("exponent(2l)", 1);
        i("exponent(" + DMAX + ")", 1023);
        i("exponent(inf)", 1024);
        i("exponent(- inf)", 1024);
        i("exponent(nan)", 1024);
        i("exponent(0)", -1023);
        i("exponent(9223372036854775807l)", 63);
        i("exponent(0.0f)", -127);
        i("exponent(- " + FMIN + ")", -127);
        i("exponent(" + bits(Float.intBitsToFloat(0x007fffff)) + ")", -127);
        i("exponent(" + FNORMAL + ")", -126);
        i("exponent(1.0f)", 0);
        i("exponent(" + FMAX + ")", 127);
        i("exponent(" + FINF + ")", 128);
        i("exponent(" + FNAN + ")", 128);
    }

    private static void signs() {
        d("signum(0.0)", 0.0);
        d("signum(- 0.0)", -0.0);
        d("signum(" + DMIN + ")", 1.0);
        d("signum(- inf)", -1.0);
        d("signum(nan)", Double.NaN);
        d("signum(- 5)", -1.0);
        d("signum(0)", 0.0);
        d("signum(0.1f)", 1.0);
        d("copysign(1.5, - 0.0)", -1.5);
        d("copysign(- 1.5, 0)", 1.5);
        d("copysign(1, - 2)", -1.0);
        d("copysign(0.0, - 1)", -0.0);
        d("copysign(inf, - 1.0f)", Double.NEGATIVE_INFINITY);
        d("copysign(- 1.5, nan)", 1.5);
        d("copysign(1.5, - nan)", 1.5);
        due(D, "copysign(nan, - 1)", NAN);
        d("copysign(1.5f, - 1)", -1.5);
        d("copysign(1, - 1.5f)", -1.0);
        f("copysign(1.5f, - 0.0f)", -1.5f);
        f("copysign(- 1.5f, 0.0f)", 1.5f);
        f("copysign(- 1.5f, " + FNAN + ")", 1.5f);
        due(F, "copysign(" + FNAN + ", - 1.0f)", FLOAT_NAN);
        t("nans(nan)", true);
        t("nans(inf)", false);
        t("nans(- 0.0)", false);
        t("nans(" + FNAN + ")", true);
        t("nans(" + FINF + ")", false);
        t("nans(1.0f)", false);
    }

    /** a * b + c, rounded once. */
    private static void fused() {
        d("fma(2, 3, 4)", 10.0);
        d("fma(0.1, 10, - 1)", 0x1p-54);
        d("fma(" + bits(1 + 0x1p-52) + ", " + bits(1 - 0x1p-52) + ", - 1)", -0x1p-104);
        d("fma(" + DMAX + ", 2, - " + DMAX + ")", Double.MAX_VALUE);
        d("fma(" + DMAX + ", 2, inf)", Double.POSITIVE_INFINITY);
        d("fma(" + DMAX + ", " + DMAX + ", - inf)", Double.NEGATIVE_INFINITY);
        d("fma(inf, 0, 1)", Double.NaN);
        d("fma(inf, 1, - inf)", Double.NaN);
        d("fma(nan, 1, 1)", Double.NaN);
        d("fma(1, 1, nan)", Double.NaN);
        d("fma(0.0, 5, - 0.0)", 0.0);
        d("fma(- 0.0, 5, - 0.0)", -0.0);
        d("fma(- 0.0, 5, 0.0)", 0.0);
        d("fma(1, 1, - 1)", 0.0);
        d("fma(- 1, 1, 1)", 0.0);
        d("fma(" + DMIN + ", 0.5, 0.0)", 0.0);
        d("fma(" + DMIN + ", 0.5, " + DMIN + ")", 2 * Double.MIN_VALUE);
        d("fma(" + DMIN + ", 0.25, " + DMIN + ")", Double.MIN_VALUE);
        d("fma(" + DMIN + ", " + DMIN + ", 1)", 1.0);
        d("fma(- " + DMIN + ", " + DMIN + ", 1)", 1.0);
        d("fma(" + DMIN + ", " + DMIN + ", " + bits(1 + 0x1p-52) + ")", 1 + 0x1p-52);
    }

    /** The product lies on a half, or just beside one, and a summand of any size tells to which side it goes. */
    private static void fusedHalves() {
        String half = bits(1 + 0x1p-52) + ", 1.5, ";
        double below = 1.5 + 0x1p-52;
        double above = 1.5 + 0x1p-51;
        d("fma(" + half + "0)", above);
        d("fma(" + half + "- 0.0)", above);
        for (int exponent : new int[] {-54, -60, -63, -64, -65, -72, -100, -104, -120, -123, -124, -125, -126, -127, -128, -129, -130,
            -200, -1000, -1022, -1074}) {
            double tiny = Math.scalb(1.0, exponent);
            d("fma(" + half + bits(tiny) + ")", above);
            d("fma(" + half + bits(-tiny) + ")", below);
            d("fma(" + bits(-1 - 0x1p-52) + ", 1.5, " + bits(tiny) + ")", -below);
            d("fma(" + bits(-1 - 0x1p-52) + ", 1.5, " + bits(-tiny) + ")", -above);
        }
        // 1 + 2 to -78, exactly.
        String more = bits(1 + 0x1p-26) + ", " + bits(1 - 0x1p-26 + 0x1p-52);
        d("fma(" + more + ", 0)", 1.0);
        d("fma(" + more + ", - 1)", 0x1p-78);
        d("fma(" + more + ", " + bits(0x1p53) + ")", 0x1p53 + 2);
        d("fma(1, 1, " + bits(0x1p53) + ")", 0x1p53);
        d("fma(- " + more + ", " + bits(0x1p53 + 4) + ")", 0x1p53 + 2);
        d("fma(- 1, 1, " + bits(0x1p53 + 4) + ")", 0x1p53 + 4);
        d("fma(" + more + ", " + bits(-0x1p53) + ")", -0x1p53 + 1);
    }

    /** a times 2 to n, rounded once. */
    private static void scaled() {
        d("scalb(1, 0)", 1.0);
        d("scalb(1, 1023)", 0x1p1023);
        d("scalb(1, 1024)", Double.POSITIVE_INFINITY);
        d("scalb(- 1, 1024)", Double.NEGATIVE_INFINITY);
        d("scalb(1, - 1074)", Double.MIN_VALUE);
        d("scalb(1, - 1075)", 0.0);
        d("scalb(- 1, - 1075)", -0.0);
        d("scalb(1.5, - 1075)", Double.MIN_VALUE);
        d("scalb(1.5, - 1074)", 2 * Double.MIN_VALUE);
        d("scalb(2.5, - 1074)", 2 * Double.MIN_VALUE);
        d("scalb(" + DMIN + ", 1074)", 1.0);
        d("scalb(" + DMIN + ", 2097)", 0x1p1023);
        d("scalb(" + DMIN + ", 2098)", Double.POSITIVE_INFINITY);
        d("scalb(" + DMAX + ", - 2097)", Math.scalb(Double.MAX_VALUE, -2097));
        d("scalb(" + DMAX + ", - 2098)", Math.scalb(Double.MAX_VALUE, -2098));
        d("scalb(" + DMAX + ", - 2099)", 0.0);
        d("scalb(1, 2147483647)", Double.POSITIVE_INFINITY);
        d("scalb(1, " + IM + ")", 0.0);
        d("scalb(0.0, 2147483647)", 0.0);
        d("scalb(- 0.0, 5)", -0.0);
        d("scalb(inf, " + IM + ")", Double.POSITIVE_INFINITY);
        d("scalb(nan, 1)", Double.NaN);
        d("scalb(1.5f, 1)", 3.0);
        // Next to a half, on both sides of it.
        d("scalb(" + bits(1.5 + 0x1p-52) + ", - 1074)", 2 * Double.MIN_VALUE);
        d("scalb(" + bits(1.5 - 0x1p-52) + ", - 1074)", Double.MIN_VALUE);
    }

    /** The bits as they stand; there is one nan, of sign +. */
    private static void bitsAndReal() {
        i("bits(0.0f)", 0);
        i("bits(- 0.0f)", IMIN);
        i("bits(1.0f)", 0x3f800000);
        i("bits(- 1.0f)", 0xbf800000);
        i("bits(" + FINF + ")", 0x7f800000);
        i("bits(- " + FINF + ")", 0xff800000);
        i("bits(" + FNAN + ")", 0x7fc00000);
        i("bits(- " + FNAN + ")", 0x7fc00000);
        l("bits(0.0)", 0);
        l("bits(- 0.0)", LMIN);
        l("bits(inf)", 0x7ff0000000000000L);
        l("bits(- inf)", 0xfff0000000000000L);
        l("bits(nan)", NAN);
        l("bits(- nan)", NAN);
        l("bits(0.0 / 0)", NAN);
        f("real(0)", 0f);
        f("real(" + IM + ")", -0f);
        f("real(1)", Float.MIN_VALUE);
        f("real(2139095039)", Float.MAX_VALUE);
        f("real(2139095040)", Float.POSITIVE_INFINITY);
        due(F, "real(2139095041)", FLOAT_NAN);
        due(F, "real(2147483647)", FLOAT_NAN);
        due(F, "real(- 1)", FLOAT_NAN);
        f("real(- 8388608)", Float.NEGATIVE_INFINITY);
        due(F, "real(- 8388607)", FLOAT_NAN);
        d("real(0l)", 0.0);
        d("real(" + LM + ")", -0.0);
        d("real(9218868437227405311l)", Double.MAX_VALUE);
        d("real(9218868437227405312l)", Double.POSITIVE_INFINITY);
        due(D, "real(9218868437227405313l)", NAN);
        due(D, "real(- 1l)", NAN);
        d("real(- 4503599627370496l)", Double.NEGATIVE_INFINITY);
        due(D, "real(- 4503599627370495l)", NAN);
    }

    /** and, or work out the right one only if the left one does not settle it. */
    private static void settled() {
        String fault = "1 / 0 == 1";
        t("false and " + fault, false);
        t("true or " + fault, true);
        t("false and " + fault + " or true", true);
        t("true and true", true);
        t("true and false", false);
        t("false or false", false);
        t("false or true", true);
        t("true or false and " + fault, true);
        t("not (true or " + fault + ")", false);
        Sheet.faulted(6, "print true and 1 ^/ 0 == 1;");
        Sheet.faulted(6, "print false or 1 ^/ 0 == 1;");
        Sheet.faulted(6, "print 1 ^/ 0 == 1 and false;");
        t("not true", false);
        t("not not true", true);
    }
}
