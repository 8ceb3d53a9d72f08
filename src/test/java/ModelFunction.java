import java.math.BigDecimal;
import java.math.BigInteger;
import java.util.ArrayList;
import java.util.Collections;
import java.util.List;

/** FUNCTIONS of the model. */
final class ModelFunction {
    /** What a FUNCTION does behind the looking at its KINDS; y is null where it has one argument. */
    interface Body {
        Object of(ModelRun run, Object x, Object y);
    }

    /** By CODE: what is asked for, then what is answered. */
    private static final String[] SHAPES = (
        "LL LL LL LL LL LL LL LR RL RR RR WL WW WS WW PA PA PP SL SA SS SS SL AS AL AL AP AA AL - "
        + "LLL LLL LLL LLL LLL LLL LLL LLL RRR RRR RRR RRL WWW AAL AAL AAP ASS SSS SLA AAA AAA").split(" ");
    private static final String KINDS = "LRWPSA";
    private static final int ANY = 5;

    final int number;
    final int[] asks;
    final int answers;
    final int size;
    private final Body body;

    private ModelFunction(int number, int[] asks, int answers, int size, Body body) {
        this.number = number;
        this.asks = asks;
        this.answers = answers;
        this.size = size;
        this.body = body;
    }

    int arity() {
        return asks.length;
    }

    static boolean isCode(int code) {
        return code >= 0 && code < SHAPES.length && !SHAPES[code].equals("-");
    }

    static ModelFunction basic(int number, int code) {
        int[] kinds = SHAPES[code].chars().map(KINDS::indexOf).toArray();
        int[] asks = java.util.Arrays.copyOf(kinds, kinds.length - 1);
        Body body = code < 30 ? (run, x, y) -> one(run, number, code, x) : (run, x, y) -> two(run, code, x, y);
        return new ModelFunction(number, asks, kinds[kinds.length - 1], 1, body);
    }

    static ModelFunction behind(int number, ModelFunction f, ModelFunction g) {
        return new ModelFunction(number, g.asks, f.answers, 1 + f.size + g.size,
            (run, x, y) -> f.call(run, g.call(run, x, y), null));
    }

    static ModelFunction bound(int number, ModelFunction f, Object value, boolean second) {
        int[] asks = {f.asks[second ? 0 : 1]};
        return new ModelFunction(number, asks, f.answers, 1 + f.size,
            (run, x, y) -> second ? f.call(run, x, value) : f.call(run, value, x));
    }

    static ModelFunction exchanged(int number, ModelFunction f) {
        int[] asks = {f.asks[1], f.asks[0]};
        return new ModelFunction(number, asks, f.answers, 1 + f.size, (run, x, y) -> f.call(run, y, x));
    }

    static boolean fit(int one, int other) {
        return one == other || one == ANY || other == ANY;
    }

    Object call(ModelRun run, Object x, Object y) {
        run.take(1);
        run.note(this, x, y);
        if (!fit(asks[0], ModelValue.kind(x)) || arity() == 2 && !fit(asks[1], ModelValue.kind(y))) {
            throw new ModelRun.Failed(ModelRun.KIND);
        }
        return body.of(run, x, y);
    }

    boolean holds(ModelRun run, Object v) {
        return ModelRun.isTrue(call(run, v, null));
    }

    private static Object one(ModelRun run, int number, int code, Object x) {
        if (code < 8) {
            return ofLong(code, (Long) x);
        }
        if (code < 11) {
            return ofReal(code, (Double) x);
        }
        if (code < 15) {
            return ofWord(run, code, (String) x);
        }
        if (code >= 18 && code <= 22) {
            return ofList(run, code, new ArrayList<>(ModelValue.parts(x)));
        }
        switch (code) {
            case 15: return ModelValue.parts(x).get(0);
            case 16: return ModelValue.parts(x).get(1);
            case 17: return run.pair(ModelValue.parts(x).get(1), ModelValue.parts(x).get(0));
            case 23: return run.list(1, List.of(x));
            case 24: return (long) ModelValue.kind(x);
            case 25: return ModelValue.hash(x);
            case 26: return run.pair(x, x);
            case 27:
                if (run.callsOf(number) % 3 != 0) {
                    throw new ModelRun.Failed(ModelRun.FLAKY);
                }
                return x;
            case 28: return (long) ModelValue.weight(x);
            default: throw new AssertionError(code);
        }
    }

    private static Object ofLong(int code, long x) {
        BigInteger v = BigInteger.valueOf(x);
        switch (code) {
            case 0: return v.negate().longValue();
            case 1: return v.abs().longValue();
            case 2: return v.multiply(v).longValue();
            case 3: return v.divide(BigInteger.TWO).longValue();
            case 4: return Long.toBinaryString(x).chars().filter(c -> c == '1').count();
            case 5: return v.testBit(0) ? 0L : 1L;
            case 6: return v.signum() > 0 ? 1L : 0L;
            case 7: return new BigDecimal(v).doubleValue() + 0.0;
            default: throw new AssertionError(code);
        }
    }

    private static Object ofReal(int code, double x) {
        if (code == 9) {
            return 0.0 - x;
        }
        if (code == 10) {
            return new BigDecimal(x).divide(BigDecimal.valueOf(2)).doubleValue() + 0.0;
        }
        BigInteger cut = new BigDecimal(x).toBigInteger();
        if (cut.bitLength() > 63) {
            throw new ModelRun.Failed(ModelRun.RANGE);
        }
        return cut.longValueExact();
    }

    private static Object ofWord(ModelRun run, int code, String x) {
        switch (code) {
            case 11: return (long) x.length();
            case 12: return new StringBuilder(x).reverse().toString();
            case 13: return run.list(x.length(), letters(x));
            default:
                if (x.isEmpty()) {
                    throw new ModelRun.Failed(ModelRun.BOUNDS);
                }
                return x.substring(0, 1);
        }
    }

    static List<Object> letters(String word) {
        List<Object> so = new ArrayList<>();
        for (char letter : word.toCharArray()) {
            so.add(Character.toString(letter));
        }
        return so;
    }

    private static Object ofList(ModelRun run, int code, List<Object> x) {
        if (code == 18) {
            return (long) x.size();
        }
        if (code == 21) {
            Collections.reverse(x);
            return run.list(x.size(), x);
        }
        if (code == 22) {
            long sum = 0;
            for (Object v : x) {
                sum += ModelRun.asLong(v);
            }
            return sum;
        }
        if (x.isEmpty()) {
            throw new ModelRun.Failed(ModelRun.BOUNDS);
        }
        Object first = x.remove(0);
        return code == 19 ? first : run.list(0, x);
    }

    private static Object two(ModelRun run, int code, Object x, Object y) {
        if (code < 38) {
            return ofLongs(code, (Long) x, (Long) y);
        }
        if (code < 42) {
            return ofReals(code, (Double) x, (Double) y);
        }
        List<Object> both = new ArrayList<>();
        switch (code) {
            case 42: return ModelRun.wordOf((String) x + y);
            case 43: return ModelValue.isSame(x, y) ? 1L : 0L;
            case 44: return ModelValue.order(x, y) < 0 ? 1L : 0L;
            case 45: return run.pair(x, y);
            case 46:
                both.add(x);
                both.addAll(ModelValue.parts(y));
                return run.list(1, both);
            case 47:
                both.addAll(ModelValue.parts(x));
                both.addAll(ModelValue.parts(y));
                return run.list(ModelValue.parts(x).size(), both);
            case 48:
                long at = (Long) y;
                if (at < 0 || at >= ModelValue.parts(x).size()) {
                    throw new ModelRun.Failed(ModelRun.BOUNDS);
                }
                return ModelValue.parts(x).get((int) at);
            case 49: return x;
            default: return y;
        }
    }

    private static Object ofLongs(int code, long a, long b) {
        BigInteger x = BigInteger.valueOf(a);
        BigInteger y = BigInteger.valueOf(b);
        if ((code == 33 || code == 34) && b == 0) {
            throw new ModelRun.Failed(ModelRun.ZERO);
        }
        switch (code) {
            case 30: return x.add(y).longValue();
            case 31: return x.subtract(y).longValue();
            case 32: return x.multiply(y).longValue();
            case 33: return x.divide(y).longValue();
            case 34: return x.remainder(y).longValue();
            case 35: return x.compareTo(y) < 0 ? 1L : 0L;
            case 36: return x.min(y).longValue();
            default: return x.max(y).longValue();
        }
    }

    private static Object ofReals(int code, double x, double y) {
        switch (code) {
            case 38: return ModelRun.real(x + y);
            case 39: return ModelRun.real(x * y);
            case 40:
                if (y == 0.0) {
                    throw new ModelRun.Failed(ModelRun.ZERO);
                }
                return ModelRun.real(x / y);
            default: return x < y ? 1L : 0L;
        }
    }
}
