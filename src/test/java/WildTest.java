import java.util.Random;

/** No call ever throws but where the document says so, and a refused call changes nothing. */
public final class WildTest {
    private static final Check c = new Check("WildTest");
    private static final int[] NUMBERS = {Integer.MIN_VALUE, -100, -2, -1, 0, 1, 2, 3, 4, 5, 6, 7, 8, 9, 10, 11,
        12, 13, 14, 15, 16, 17, 18, 19, 20, 25, 27, 28, 30, 40, 59, 60, 80, 100, 1000, Integer.MAX_VALUE};
    private static final long[] LONGS = {Long.MIN_VALUE, -28, -1, 0, 1, 2, 27, 28, 731, 1L << 40, Long.MAX_VALUE};
    private static final double[] REALS = {0.0, -0.0, 1.5, -1e9, 1e10, 1e308, Double.NaN,
        Double.POSITIVE_INFINITY, Double.NEGATIVE_INFINITY, Double.MIN_VALUE};

    private static Random random;
    private static StageConveyor x;

    public static void main(String[] args) {
        for (int seed = 0; seed < 400; seed++) {
            random = new Random(seed);
            x = new StageConveyor();
            build();
            for (int i = 0; i < 150; i++) {
                tryOne(seed);
            }
        }
        c.finish();
    }

    private static int number() {
        return random.nextInt(3) == 0 ? NUMBERS[random.nextInt(NUMBERS.length)] : random.nextInt(8);
    }

    private static long big() {
        return LONGS[random.nextInt(LONGS.length)];
    }

    private static double measure() {
        return REALS[random.nextInt(REALS.length)];
    }

    private static void build() {
        int one = x.whole(1);
        int word = x.word(29);
        Kit.list(x, one, word, 0);
        x.pair(one, word);
        int[] codes = {0, 5, 30, 45, 23, 27, 15, 20};
        for (int code : codes) {
            x.basic(code);
        }
        x.key(0, true);
        x.range(0, 7);
        x.row(word);
        x.row(4);
    }

    private static void tryOne(int seed) {
        c.about("seed " + seed);
        String before = Kit.state(x);
        int which = random.nextInt(20);
        int answer = buildOrRun(which);
        if (answer < 0 && answer > -100) {
            c.due(before, Kit.state(x));
        }
        ask();
    }

    private static int buildOrRun(int which) {
        boolean yes = random.nextBoolean();
        switch (which) {
            case 0:
                return x.whole(big());
            case 1:
                return x.real(measure());
            case 2:
                return x.word(big());
            case 3:
                return x.pair(number(), number());
            case 4:
                return x.cons(number(), number());
            case 5:
                return x.basic(number());
            case 6:
                return x.behind(number(), number());
            case 7:
                return x.bind(number(), number(), yes);
            case 8:
                return x.exchange(number());
            case 9:
                return x.key(number(), yes);
            case 10:
                return x.then(number(), number());
            case 11:
                return x.range(big(), big());
            case 12:
                return x.iterate(number(), number(), number(), yes);
            case 13:
                return x.steps(measure(), measure(), number());
            case 14:
                return x.row(number());
            case 15:
                return x.guard(number(), yes ? 6 : number(), number());
            case 16:
                return x.both(number(), number(), yes ? 8 + random.nextInt(3) : number(), number());
            case 17:
                return x.stage(number(), 11 + random.nextInt(20), number(), number());
            case 18:
                return x.rewrite(number());
            default:
                return x.run(number(), random.nextInt(20), number(), number());
        }
    }

    private static void ask() {
        x.kind(number());
        x.size(number());
        x.part(number(), number());
        x.calls(number());
        x.call(number());
        x.given(number());
        x.failure(number());
        x.rule(number());
        x.look(number(), number());
        x.shape(number(), number());
        x.count(number());
        x.foretell(number(), number(), number(), number());
        x.equal(number(), number(), number(), number(), number());
        if (random.nextInt(10) == 0) {
            x.undo();
        }
        mayThrow(() -> x.told(number()));
        mayThrow(() -> x.measured(number()));
        mayThrow(() -> x.argument(number(), random.nextBoolean()));
        mayThrow(() -> x.closed(number(), random.nextBoolean()));
    }

    private static void mayThrow(Check.Call call) {
        try {
            call.make();
        } catch (IllegalArgumentException e) {
            c.due("IllegalArgumentException", e.getClass().getSimpleName());
        }
    }
}
