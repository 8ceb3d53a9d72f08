import java.math.BigDecimal;
import java.math.BigInteger;
import java.util.List;

/** VALUES of the model: a Long, a Double, a String, a Two, or a List of these. */
final class ModelValue {
    /** A PAIR. */
    record Two(Object first, Object second) {
    }

    private static final BigInteger LEAST = BigInteger.valueOf(Long.MIN_VALUE);
    private static final BigInteger GREATEST = BigInteger.valueOf(Long.MAX_VALUE);

    private ModelValue() {
    }

    static int kind(Object v) {
        return v instanceof Long ? 0 : v instanceof Double ? 1 : v instanceof String ? 2 : v instanceof Two ? 3 : 4;
    }

    static List<?> parts(Object v) {
        return v instanceof Two two ? List.of(two.first(), two.second()) : v instanceof List<?> list ? list : List.of();
    }

    static int weight(Object v) {
        return 1 + parts(v).stream().mapToInt(ModelValue::weight).sum();
    }

    static int depth(Object v) {
        return 1 + parts(v).stream().mapToInt(ModelValue::depth).max().orElse(0);
    }

    static boolean isTooLarge(Object v) {
        return v instanceof List<?> list && list.size() > 40 || weight(v) > 100 || depth(v) > 10;
    }

    /** Records, Strings, boxed numbers and Lists are equal just where the document says SAME. */
    static boolean isSame(Object x, Object y) {
        return x.equals(y);
    }

    static int order(Object x, Object y) {
        if (kind(x) != kind(y)) {
            return kind(x) - kind(y);
        }
        if (x instanceof Long v) {
            return v.compareTo((Long) y);
        }
        if (x instanceof Double v) {
            return v.compareTo((Double) y);
        }
        if (x instanceof String v) {
            return v.compareTo((String) y);
        }
        int both = Math.min(parts(x).size(), parts(y).size());
        for (int i = 0; i < both; i++) {
            int so = order(parts(x).get(i), parts(y).get(i));
            if (so != 0) {
                return so;
            }
        }
        return parts(x).size() - parts(y).size();
    }

    static long hash(Object v) {
        if (v instanceof Long n) {
            return 31 * n + 1;
        }
        if (v instanceof Double x) {
            BigInteger c = new BigDecimal(x).multiply(BigDecimal.valueOf(8)).toBigInteger();
            return 31 * c.min(GREATEST).max(LEAST).longValueExact() + 2;
        }
        if (v instanceof String word) {
            long so = 3;
            for (char letter : word.toCharArray()) {
                so = 31 * so + (letter - 'a' + 1);
            }
            return so;
        }
        if (v instanceof Two two) {
            return 31 * (31 * hash(two.first()) + hash(two.second())) + 4;
        }
        long so = 5;
        for (Object part : parts(v)) {
            so = 31 * so + hash(part);
        }
        return so;
    }

    /** The letters of a WORD by its digits, or null if they are no WORD's. */
    static String letters(long digits) {
        if (digits < 0) {
            return null;
        }
        StringBuilder so = new StringBuilder();
        for (char digit : Long.toString(digits, 27).toCharArray()) {
            int letter = Character.digit(digit, 27);
            if (letter == 0 && digits != 0) {
                return null;
            }
            so.append(digits == 0 ? "" : Character.toString('a' + letter - 1));
        }
        return so.length() > 12 ? null : so.toString();
    }

    static long digits(String word) {
        long so = 0;
        for (char letter : word.toCharArray()) {
            so = so * 27 + (letter - 'a' + 1);
        }
        return so;
    }
}
