import java.math.BigInteger;
import java.util.Comparator;
import java.util.HashSet;
import java.util.Set;

/** What the signs of an X make of VALUES, and THE ORDER of these. */
final class PlainSigns {
    static final Comparator<Object> ORDER = PlainSigns::compare;

    private PlainSigns() {
    }

    private static int rank(Object value) {
        return value instanceof PlainGraph.Thing thing ? (thing.kind() == 'N' ? 0 : 1)
                : value instanceof String ? 2 : value instanceof Boolean ? 3 : value instanceof Long ? 4 : 5;
    }

    private static int compare(Object a, Object b) {
        if (rank(a) != rank(b) || a == null) {
            return Integer.compare(rank(a), rank(b));
        }
        if (a instanceof PlainGraph.Thing thing) {
            return Integer.compare(thing.number(), ((PlainGraph.Thing) b).number());
        }
        if (a instanceof String text) {
            return text.compareTo((String) b);
        }
        return a instanceof Boolean truth ? Boolean.compare(truth, (Boolean) b) : Long.compare((Long) a, (Long) b);
    }

    static Object between(String sign, Object a, Object b) {
        switch (sign) {
            case "AND":
            case "OR":
            case "XOR":
                return reason(sign, a, b);
            case "+":
            case "-":
            case "*":
            case "/":
            case "%":
                return a == null || b == null ? null : reckon(sign, a, b);
            case "=":
                return a == null || b == null ? null : a.equals(b);
            case "<>":
                return a == null || b == null ? null : !a.equals(b);
            default:
                boolean two = a instanceof Long && b instanceof Long || a instanceof String && b instanceof String;
                return two ? inOrder(sign, compare(a, b)) : null;
        }
    }

    private static Object inOrder(String sign, int order) {
        return order < 0 ? sign.startsWith("<") : order > 0 ? sign.startsWith(">") : sign.endsWith("=");
    }

    static boolean[] either(Object value) {
        if (value == null) {
            return new boolean[] {false, true};
        }
        if (value instanceof Boolean truth) {
            return new boolean[] {truth};
        }
        throw Refused.error(2);
    }

    /** null stands for either: where these come to different ends, the end is not known. */
    private static Object reason(String sign, Object a, Object b) {
        Set<Boolean> ends = new HashSet<>();
        boolean[] rights = either(b);
        for (boolean left : either(a)) {
            for (boolean right : rights) {
                ends.add(sign.equals("AND") ? left && right : sign.equals("OR") ? left || right : left != right);
            }
        }
        return ends.size() == 1 ? ends.iterator().next() : null;
    }

    static Object not(Object value) {
        boolean[] truths = either(value);
        return truths.length == 1 ? !truths[0] : null;
    }

    static Object negate(Object value) {
        return value == null ? null : reckon("-", 0L, value);
    }

    private static Object reckon(String sign, Object a, Object b) {
        if (sign.equals("+") && a instanceof String left && b instanceof String right) {
            if (left.length() + right.length() > 24) {
                throw Refused.error(5);
            }
            return left + right;
        }
        if (!(a instanceof Long) || !(b instanceof Long)) {
            throw Refused.error(2);
        }
        BigInteger left = BigInteger.valueOf((Long) a);
        BigInteger right = BigInteger.valueOf((Long) b);
        if (right.signum() == 0 && (sign.equals("/") || sign.equals("%"))) {
            throw Refused.error(4);
        }
        return within(sign.equals("+") ? left.add(right)
                : sign.equals("-") ? left.subtract(right)
                : sign.equals("*") ? left.multiply(right)
                : sign.equals("/") ? left.divide(right) : left.remainder(right));
    }

    static Long within(BigInteger number) {
        if (number.bitLength() > 63) {
            throw Refused.error(3);
        }
        return number.longValue();
    }
}
