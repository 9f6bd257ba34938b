import java.util.ArrayList;
import java.util.List;
import java.util.Random;

/** Random E of all TYPES, with no more ( than must be, against what Java's own operators and functions answer. */
public final class RandomExpressionsTest {
    private static final int I = 1;
    private static final int L = 2;
    private static final int F = 3;
    private static final int D = 4;
    private static final int T = 5;
    // How strongly an E binds: or, and, not, a comparison, + -, * / %, - ahead, the rest.
    private static final int OR = 0;
    private static final int AND = 1;
    private static final int NOT = 2;
    private static final int COMPARISON = 3;
    private static final int SUM = 4;
    private static final int PRODUCT = 5;
    private static final int SIGNED = 6;
    private static final int PRIMARY = 7;

    private static final Random RANDOM = new Random(7);

    private static final class Node {
        final String text;
        final int type;
        final int binds;
        final Object value;

        Node(String text, int type, int binds, Object value) {
            this.text = text;
            this.type = type;
            this.binds = binds;
            this.value = value;
        }

        String within(int least) {
            return binds >= least ? text : "(" + text + ")";
        }
    }

    private static List<Node> names = new ArrayList<>();

    public static void main(String[] args) {
        int read = 0;
        for (int n = 0; n < 4000; n++) {
            read += program();
        }
        Sheet.due("most of them are no FAULT", read > 3000 ? 1 : 0, 1);
        Sheet.end();
    }

    private static int program() {
        names = new ArrayList<>();
        StringBuilder text = new StringBuilder("macro m() { ");
        List<Node> due = new ArrayList<>();
        for (int i = 0; i < 12; i++) {
            Node node = any(1 + RANDOM.nextInt(5));
            if (i < 5) {
                text.append("let q").append(i).append(" = ").append(node.text).append("; ");
                names.add(new Node("q" + i, node.type, PRIMARY, node.value));
            } else {
                text.append("print ").append(node.text).append("; ");
                due.add(node);
            }
        }
        text.append("}");
        if (text.length() > 4000) {
            return 0;
        }
        LaneSheet sheet = new LaneSheet();
        if (Sheet.compile(sheet, text.toString()) < 0) {
            Sheet.due("MANY at most: " + sheet.fault(1) + " in " + text, sheet.fault(0), 6);
            return 0;
        }
        Sheet.due("run of " + text, sheet.run(0, 100, 0, 0, 0), 0);
        for (int i = 0; i < due.size(); i++) {
            Sheet.due("TYPE of " + due.get(i).text, Sheet.out(sheet, i, 0), due.get(i).type);
            Sheet.due(due.get(i).text + " in " + text, Sheet.out(sheet, i, 1), bits(due.get(i).value));
        }
        return 1;
    }

    private static long bits(Object value) {
        if (value instanceof Float) {
            return Float.floatToIntBits((Float) value);
        }
        if (value instanceof Double) {
            return Double.doubleToLongBits((Double) value);
        }
        return value instanceof Boolean ? ((Boolean) value ? 1 : 0) : ((Number) value).longValue();
    }

    private static Node any(int depth) {
        return of(1 + RANDOM.nextInt(5), depth);
    }

    private static Node number(int depth) {
        return of(1 + RANDOM.nextInt(4), depth);
    }

    /** An E of this TYPE. */
    private static Node of(int type, int depth) {
        if (depth <= 0 || RANDOM.nextInt(8) == 0) {
            return leaf(type);
        }
        if (type == T) {
            return truth(depth - 1);
        }
        if (RANDOM.nextInt(3) == 0) {
            return function(type, depth - 1);
        }
        return RANDOM.nextInt(7) == 0 ? negated(of(type, depth - 1)) : arithmetic(type, depth - 1);
    }

    private static Node leaf(int type) {
        for (Node name : names) {
            if (name.type == type && RANDOM.nextInt(3) == 0) {
                return name;
            }
        }
        long small = RANDOM.nextInt(RANDOM.nextBoolean() ? 4 : 100000);
        switch (type) {
            case I: return new Node(String.valueOf(small), I, PRIMARY, (int) small);
            case L:
                long great = RANDOM.nextLong() >>> (1 + RANDOM.nextInt(63));
                return new Node(great + "l", L, PRIMARY, great);
            case F: return new Node(small / 8 + "." + (small % 8) * 125 + "f", F, PRIMARY,
                (float) Double.parseDouble(small / 8 + "." + (small % 8) * 125));
            case D:
                if (RANDOM.nextInt(6) == 0) {
                    return RANDOM.nextBoolean() ? new Node("nan", D, PRIMARY, Double.NaN)
                        : new Node("inf", D, PRIMARY, Double.POSITIVE_INFINITY);
                }
                String digits = small + "." + RANDOM.nextInt(10);
                return new Node(digits, D, PRIMARY, Double.parseDouble(digits));
            default:
                boolean truth = RANDOM.nextBoolean();
                return new Node(String.valueOf(truth), T, PRIMARY, truth);
        }
    }

    private static Node negated(Node node) {
        Object value;
        switch (node.type) {
            case I: value = -(Integer) node.value; break;
            case L: value = -(Long) node.value; break;
            case F: value = -(Float) node.value; break;
            default: value = -(Double) node.value; break;
        }
        return new Node("- " + node.within(SIGNED), node.type, SIGNED, value);
    }

    private static Node truth(int depth) {
        switch (RANDOM.nextInt(6)) {
            case 0:
                Node one = of(T, depth);
                return new Node("not " + one.within(NOT), T, NOT, !(Boolean) one.value);
            case 1: return joined("and", AND, of(T, depth), of(T, depth));
            case 2: return joined("or", OR, of(T, depth), of(T, depth));
            case 3:
                Node real = of(RANDOM.nextBoolean() ? F : D, depth);
                return new Node("nans(" + real.text + ")", T, PRIMARY, Double.isNaN(doubleOf(real)));
            default: return comparison(depth);
        }
    }

    private static Node joined(String word, int binds, Node left, Node right) {
        boolean value = word.equals("and") ? (Boolean) left.value && (Boolean) right.value
            : (Boolean) left.value || (Boolean) right.value;
        return new Node(left.within(binds) + " " + word + " " + right.within(binds + 1), T, binds, value);
    }

    private static Node comparison(int depth) {
        String[] signs = {"==", "!=", "<", "<=", ">", ">="};
        boolean truths = RANDOM.nextInt(5) == 0;
        String sign = signs[RANDOM.nextInt(truths ? 2 : 6)];
        Node left = truths ? of(T, depth) : number(depth);
        Node right = truths ? of(T, depth) : RANDOM.nextInt(4) == 0 ? left : number(depth);
        String text = left.within(SUM) + " " + sign + " " + right.within(SUM);
        return new Node(text, T, COMPARISON, truths ? left.value.equals(right.value) == sign.equals("==") : compared(sign, left, right));
    }

    private static boolean compared(String sign, Node left, Node right) {
        int type = Math.max(left.type, right.type);
        boolean less;
        boolean equal;
        boolean more;
        if (type <= L) {
            long a = ((Number) left.value).longValue();
            long b = ((Number) right.value).longValue();
            less = a < b;
            equal = a == b;
            more = a > b;
        } else {
            double a = type == F ? floatOf(left) : doubleOf(left);
            double b = type == F ? floatOf(right) : doubleOf(right);
            less = a < b;
            equal = a == b;
            more = a > b;
        }
        switch (sign) {
            case "==": return equal;
            case "!=": return !equal;
            case "<": return less;
            case "<=": return less || equal;
            case ">": return more;
            default: return more || equal;
        }
    }

    private static float floatOf(Node node) {
        return ((Number) node.value).floatValue();
    }

    private static double doubleOf(Node node) {
        return ((Number) node.value).doubleValue();
    }

    /** Of two of which one has this TYPE and the other no greater one. */
    private static Node arithmetic(int type, int depth) {
        Node left = of(type, depth);
        Node right = of(1 + RANDOM.nextInt(type), depth);
        if (RANDOM.nextBoolean()) {
            Node other = left;
            left = right;
            right = other;
        }
        char sign = "+-*/%".charAt(RANDOM.nextInt(5));
        if (type <= L && (sign == '/' || sign == '%') && ((Number) right.value).longValue() == 0) {
            sign = '*';
        }
        int binds = sign == '+' || sign == '-' ? SUM : PRODUCT;
        String text = left.within(binds) + " " + sign + " " + right.within(binds + 1);
        return new Node(text, type, binds, calculated(type, sign, left, right));
    }

    private static Object calculated(int type, char sign, Node left, Node right) {
        if (type <= L) {
            long a = ((Number) left.value).longValue();
            long b = ((Number) right.value).longValue();
            long c = sign == '+' ? a + b : sign == '-' ? a - b : sign == '*' ? a * b : sign == '/' ? a / b : a % b;
            return type == I ? (Object) (int) c : (Object) c;
        }
        if (type == F) {
            float a = floatOf(left);
            float b = floatOf(right);
            return sign == '+' ? a + b : sign == '-' ? a - b : sign == '*' ? a * b : sign == '/' ? a / b : a % b;
        }
        double a = doubleOf(left);
        double b = doubleOf(right);
        return sign == '+' ? a + b : sign == '-' ? a - b : sign == '*' ? a * b : sign == '/' ? a / b : a % b;
    }

    private static Node function(int type, int depth) {
        switch (type) {
            case I: return functionToInt(depth);
            case L: return functionToLong(depth);
            case F: return functionToFloat(depth);
            default: return functionToDouble(depth);
        }
    }

    private static Node call(String word, int type, Object value, Node... operands) {
        StringBuilder text = new StringBuilder(word).append('(');
        for (int i = 0; i < operands.length; i++) {
            text.append(i == 0 ? "" : ", ").append(operands[i].text);
        }
        return new Node(text.append(')').toString(), type, PRIMARY, value);
    }

    private static int intOf(Node node) {
        return node.value instanceof Long ? (int) (long) (Long) node.value : node.value instanceof Float ? (int) (float) (Float) node.value
            : node.value instanceof Double ? (int) (double) (Double) node.value : (Integer) node.value;
    }

    private static Node functionToInt(int depth) {
        Node one = number(depth);
        Node real = of(F, depth);
        switch (RANDOM.nextInt(10)) {
            case 0: return call("int", I, intOf(one), one);
            case 1: return call("byte", I, (int) (byte) intOf(one), one);
            case 2: return call("short", I, (int) (short) intOf(one), one);
            case 3: return call("sign", I, (int) (char) intOf(one), one);
            case 4: return call("bits", I, Float.floatToIntBits(floatOf(real)), real);
            case 5: return call("round", I, Math.round(floatOf(real)), real);
            case 6: return call("exponent", I, one.type == F ? Math.getExponent(floatOf(one)) : Math.getExponent(doubleOf(one)), one);
            default:
                Node a = of(I, depth);
                Node b = of(I, depth);
                return RANDOM.nextBoolean() ? call("min", I, Math.min((Integer) a.value, (Integer) b.value), a, b)
                    : call("abs", I, Math.abs((Integer) a.value), a);
        }
    }

    private static Node functionToLong(int depth) {
        Node one = number(depth);
        Node real = of(D, depth);
        switch (RANDOM.nextInt(5)) {
            case 0: return call("long", L, one.value instanceof Float ? (long) (float) (Float) one.value : one.value instanceof Double
                ? (long) (double) (Double) one.value : ((Number) one.value).longValue(), one);
            case 1: return call("bits", L, Double.doubleToLongBits(doubleOf(real)), real);
            case 2: return call("round", L, Math.round(doubleOf(real)), real);
            case 3:
                Node a = of(L, depth);
                return call("abs", L, Math.abs((Long) a.value), a);
            default:
                Node b = of(L, depth);
                Node c = of(RANDOM.nextBoolean() ? I : L, depth);
                return call("max", L, Math.max((Long) b.value, ((Number) c.value).longValue()), b, c);
        }
    }

    private static Node functionToFloat(int depth) {
        Node one = number(depth);
        Node real = of(F, depth);
        Node other = of(F, depth);
        switch (RANDOM.nextInt(8)) {
            case 0: return call("float", F, floatOf(one), one);
            case 1:
                Node pattern = of(I, depth);
                return call("real", F, Float.intBitsToFloat((Integer) pattern.value), pattern);
            case 2: return call("ulp", F, Math.ulp(floatOf(real)), real);
            case 3: return call("up", F, Math.nextUp(floatOf(real)), real);
            case 4: return call("down", F, Math.nextDown(floatOf(real)), real);
            case 5: return call("copysign", F, StrictMath.copySign(floatOf(real), floatOf(other)), real, other);
            case 6:
                Node less = of(1 + RANDOM.nextInt(3), depth);
                return call("min", F, Math.min(floatOf(less), floatOf(real)), less, real);
            default: return call("abs", F, Math.abs(floatOf(real)), real);
        }
    }

    private static Node functionToDouble(int depth) {
        Node one = number(depth);
        Node other = number(depth);
        Node real = of(D, depth);
        Node whole = RANDOM.nextInt(3) == 0 ? of(I, depth) : one.type == I ? one : leaf(I);
        Node notFloat = one.type == F ? real : one;
        double x = doubleOf(one);
        switch (RANDOM.nextInt(17)) {
            case 0: return call("double", D, x, one);
            case 1:
                Node pattern = of(L, depth);
                return call("real", D, Double.longBitsToDouble((Long) pattern.value), pattern);
            case 2: return call("floor", D, Math.floor(x), one);
            case 3: return call("ceil", D, Math.ceil(x), one);
            case 4: return call("rint", D, Math.rint(x), one);
            case 5: return call("sqrt", D, Math.sqrt(x), one);
            case 6: return call("signum", D, Math.signum(x), one);
            case 7: return call("ulp", D, Math.ulp(doubleOf(notFloat)), notFloat);
            case 8: return call("up", D, Math.nextUp(doubleOf(notFloat)), notFloat);
            case 9: return call("down", D, Math.nextDown(doubleOf(notFloat)), notFloat);
            case 10: return call("copysign", D, StrictMath.copySign(doubleOf(notFloat), doubleOf(other)), notFloat, other);
            case 11: return call("copysign", D, StrictMath.copySign(x, doubleOf(real)), one, real);
            case 12: return call("fma", D, Math.fma(x, doubleOf(other), doubleOf(real)), one, other, real);
            case 13: return call("scalb", D, Math.scalb(x, (Integer) whole.value), one, whole);
            case 14: return call("min", D, Math.min(x, doubleOf(real)), one, real);
            case 15: return call("max", D, Math.max(doubleOf(real), x), real, one);
            default: return call("abs", D, Math.abs(doubleOf(real)), real);
        }
    }
}
