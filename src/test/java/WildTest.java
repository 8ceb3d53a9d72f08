import java.util.ArrayList;
import java.util.List;
import java.util.Random;

/**
 * Wild calls: none ever throws but where the document says so, and a refused one changes nothing. The
 * calls of a run are made on one object, and on another one without those that were refused there: both
 * must tell the same in the end.
 */
public final class WildTest {
    private static final Check c = new Check("WildTest");
    private static final int[] NUMBERS = {Integer.MIN_VALUE, -100, -2, -1, 0, 1, 2, 3, 4, 5, 6, 7, 8, 9, 10, 11,
        12, 13, 14, 15, 16, 17, 18, 19, 20, 25, 27, 28, 30, 40, 59, 60, 80, 100, 1000, Integer.MAX_VALUE};
    private static final long[] LONGS = {Long.MIN_VALUE, -28, -1, 0, 1, 2, 27, 28, 731, 1L << 40, Long.MAX_VALUE};
    private static final double[] REALS = {0.0, -0.0, 1.5, -1e9, 1e10, 1e308, Double.NaN,
        Double.POSITIVE_INFINITY, Double.NEGATIVE_INFINITY, Double.MIN_VALUE};

    private static Random random;

    public static void main(String[] args) {
        for (int seed = 0; seed < 3000; seed++) {
            c.about("seed " + seed);
            random = new Random(seed);
            List<Check.Answer> calls = new ArrayList<>();
            StageConveyor x = built();
            for (int i = 0; i < 40; i++) {
                Check.Answer call = wild(random.nextInt(24));
                int answer = call.of(x);
                if (answer >= 0 || answer <= -100) {
                    calls.add(call);
                }
            }
            StageConveyor twin = built();
            for (Check.Answer call : calls) {
                call.of(twin);
            }
            c.due(Kit.state(twin), Kit.state(x));
            ask(x);
        }
        c.finish();
    }

    private static int number() {
        return random.nextInt(3) == 0 ? NUMBERS[random.nextInt(NUMBERS.length)] : random.nextInt(8);
    }

    private static long big() {
        return LONGS[random.nextInt(LONGS.length)];
    }

    private static double measure() {
        return REALS[random.nextInt(REALS.length)];
    }

    private static StageConveyor built() {
        StageConveyor x = new StageConveyor();
        int one = x.whole(1);
        int word = x.word(29);
        Kit.list(x, one, word, 0);
        x.pair(one, word);
        int[] codes = {0, 5, 30, 45, 23, 27, 15, 20};
        for (int code : codes) {
            x.basic(code);
        }
        x.key(0, true);
        x.range(0, 7);
        x.row(word);
        x.row(4);
        return x;
    }

    /** A call with its numbers, so that it can be made again. */
    private static Check.Answer wild(int which) {
        boolean yes = random.nextBoolean();
        int a = number();
        int b = number();
        int d = number();
        int e = number();
        long one = big();
        long two = big();
        double start = measure();
        double by = measure();
        int sort = 11 + random.nextInt(20);
        int end = random.nextInt(20);
        Check.Answer[] calls = {x -> x.whole(one), x -> x.real(start), x -> x.word(one), x -> x.pair(a, b),
            x -> x.cons(a, b), x -> x.basic(a), x -> x.behind(a, b), x -> x.bind(a, b, yes), x -> x.exchange(a),
            x -> x.key(a, yes), x -> x.then(a, b), x -> x.range(one, two), x -> x.iterate(a, b, d, yes),
            x -> x.steps(start, by, a), x -> x.row(a), x -> x.guard(a, yes ? 6 : b, d),
            x -> x.both(a, b, yes ? 8 + end % 3 : d, e), x -> x.stage(a, sort, b, d), x -> x.stage(a, b, d, e),
            x -> x.rewrite(a), x -> x.run(a, end, b, d), x -> x.foretell(a, end, b, d),
            x -> x.equal(a, b, end, d, e), x -> x.undo()};
        return calls[which];
    }

    private static void ask(StageConveyor x) {
        x.kind(number());
        x.size(number());
        x.part(number(), number());
        x.calls(number());
        x.call(number());
        x.given(number());
        x.failure(number());
        x.rule(number());
        x.look(number(), number());
        x.shape(number(), number());
        x.count(number());
        mayThrow(() -> x.told(number()));
        mayThrow(() -> x.measured(number()));
        mayThrow(() -> x.argument(number(), random.nextBoolean()));
        mayThrow(() -> x.closed(number(), random.nextBoolean()));
    }

    private static void mayThrow(Check.Call call) {
        try {
            call.make();
        } catch (IllegalArgumentException e) {
            c.due("IllegalArgumentException", e.getClass().getSimpleName());
        }
    }
}
