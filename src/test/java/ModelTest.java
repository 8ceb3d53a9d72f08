import java.lang.reflect.InvocationTargetException;
import java.lang.reflect.Method;
import java.lang.reflect.Modifier;
import java.util.ArrayList;
import java.util.Arrays;
import java.util.HashMap;
import java.util.List;
import java.util.Map;
import java.util.Random;

/**
 * Long runs of calls, made by chance (but the same ones each time), on the class and on the model: each answer must
 * be the same. A run that differs is printed up to there.
 */
public final class ModelTest {
    private static final Check c = new Check("ModelTest");
    /** What is told behind one building or RUN must still be within the 512 calls. */
    private static final int LAST_STEP = 512 - 60;
    private static final int MANNERS = 10;
    private static final int[] ODD = {Integer.MIN_VALUE, -2, -1, 59, 60, 80, 1000, 1001, Integer.MAX_VALUE};
    private static final int[] AMOUNTS = {0, 1, 2, 3, 4, 5, 10, 11, 12, 41, 1000, 1001, 10000, 10001, -1};
    private static final long[] LONGS = {0, 1, 2, 3, 5, 7, -1, -2, 40, 63, Long.MIN_VALUE, Long.MAX_VALUE, 1L << 53,
        (1L << 53) + 1, (1L << 62) + 257};
    private static final double[] REALS = {0.0, -0.0, 0.5, -1.5, 2.0, 3.75, 1e300, -1e308, Double.MAX_VALUE, 9.3e18,
        -9223372036854775808.0, 9223372036854775808.0, 9223372036854774784.0, Double.MIN_VALUE, -Double.MIN_VALUE,
        1152921504606846976.0, -0.13, 1e9, -1e9};
    private static final double[] NO_REALS = {Double.NaN, Double.POSITIVE_INFINITY, Double.NEGATIVE_INFINITY, 1e10};
    private static final int[] REWRITTEN = {12, 15, 16, 19, 20, 21, 29, 30};
    private static final int[] OF_REALS = {7, 8, 9, 10, 24, 25, 27, 28, 38, 38, 39, 39, 40, 40, 41, 45, 49, 50};
    private static final int[] OF_WORDS = {11, 12, 12, 13, 14, 15, 23, 26, 27, 42, 42, 43, 44, 45, 46, 49, 50};
    private static final Map<String, Method> FACE = new HashMap<>();
    private static final Map<String, Method> MODEL = new HashMap<>();

    private final StageConveyor x = new StageConveyor();
    private final Model m = new Model();
    private final Random random;
    /**
     * What this run does most: 0 anything, 1 long LISTS, 2 deep VALUES, 3 many stages, 4 long RUNS, 5 rewrite(),
     * 6 undo(), 7 REALS, 8 WORDS, 9 buildings, until there is no room.
     */
    private final int manner;
    private final List<String> made = new ArrayList<>();
    private boolean differs = false;

    private ModelTest(int seed) {
        random = new Random(seed);
        manner = seed % MANNERS;
    }

    public static void main(String[] args) {
        findMethods();
        int first = args.length > 0 ? Integer.parseInt(args[0]) : 0;
        int many = args.length > 1 ? Integer.parseInt(args[1]) : 420;
        for (int seed = first; seed < first + many; seed++) {
            c.about("seed " + seed);
            new ModelTest(seed).go();
        }
        c.finish();
    }

    private static void findMethods() {
        for (Method method : StageConveyor.class.getDeclaredMethods()) {
            if (Modifier.isPublic(method.getModifiers())) {
                FACE.put(method.getName(), method);
            }
        }
        for (Method method : Model.class.getDeclaredMethods()) {
            Method twin = FACE.get(method.getName());
            if (twin != null && Arrays.equals(twin.getParameterTypes(), method.getParameterTypes())) {
                MODEL.put(method.getName(), method);
            }
        }
    }

    private static Object answer(Method method, Object of, Object... arguments) {
        try {
            return method.invoke(of, arguments);
        } catch (InvocationTargetException thrown) {
            return "throws." + thrown.getCause().getClass().getSimpleName();
        } catch (IllegalAccessException never) {
            throw new AssertionError(never);
        }
    }

    /** Makes a call on both; what the model answers, or 0 if that is no int. */
    private int call(String name, Object... arguments) {
        Object want = answer(MODEL.get(name), m, arguments);
        Object got = answer(FACE.get(name), x, arguments);
        String shown = name + Arrays.toString(arguments);
        made.add(shown + " " + got);
        c.due(name + " " + want, name + " " + got);
        if (!want.equals(got)) {
            differs = true;
            System.out.println(String.join("\n", made) + ", due is " + want);
        }
        return want instanceof Integer n ? n : 0;
    }

    private void go() {
        begin();
        while (!differs && made.size() < LAST_STEP) {
            step();
        }
    }

    private boolean seldom(int one) {
        return random.nextInt(one) == 0;
    }

    private int oneOf(int... these) {
        return these[random.nextInt(these.length)];
    }

    /** A number below n, seldom another one. */
    private int number(int n) {
        return n == 0 || seldom(25) ? seldom(2) ? n : oneOf(ODD) : random.nextInt(n);
    }

    private long someLong() {
        return seldom(3) ? LONGS[random.nextInt(LONGS.length)] : random.nextInt(12) - 3;
    }

    private double someReal() {
        return seldom(12) ? NO_REALS[random.nextInt(NO_REALS.length)]
            : seldom(2) ? REALS[random.nextInt(REALS.length)] : (random.nextInt(80) - 40) / 8.0;
    }

    private long someWord() {
        long so = 0;
        int length = seldom(3) ? random.nextInt(14) : random.nextInt(4);
        for (int i = 0; i < length; i++) {
            so = 27 * so + (seldom(40) ? 0 : 1 + random.nextInt(seldom(2) ? 26 : 3));
        }
        return so;
    }

    private void begin() {
        for (int i = 0; i < 6; i++) {
            simpleValue();
        }
        int list = 0;
        int conses = manner == 1 ? 38 + random.nextInt(6) : 4;
        for (int i = 0; i < conses; i++) {
            int one = manner == 7 ? valueFor(1) : manner == 8 ? valueFor(2) : random.nextInt(7);
            int next = call("cons", one, list);
            list = next >= 0 ? next : list;
        }
        for (int i = 0; i < (manner == 2 ? 16 : 3); i++) {
            compoundValue();
        }
        int functions = 10 + random.nextInt(20);
        for (int i = 0; i < functions; i++) {
            function();
        }
        for (int i = 0; i < 3; i++) {
            comparator();
            source();
        }
    }

    private void step() {
        int dice = random.nextInt(manner == 9 ? 40 : 100);
        if (manner == 6 && seldom(4)) {
            call("undo");
        } else if (dice < (manner == 9 ? 7 : 4)) {
            value();
        } else if (dice < 10) {
            function();
        } else if (dice < (manner == 9 ? 15 : 12)) {
            comparator();
        } else if (dice < 20) {
            source();
        } else if (dice < 25) {
            ofOthers();
        } else if (dice < (manner == 3 || manner == 5 ? 70 : 50)) {
            stage();
        } else if (dice < (manner == 5 ? 85 : 72)) {
            rewriteOrForetell();
        } else if (dice < 74) {
            call("undo");
        } else {
            run();
        }
    }

    private void value() {
        if (seldom(2)) {
            simpleValue();
        } else {
            compoundValue();
        }
    }

    private void simpleValue() {
        int dice = random.nextInt(4);
        if (manner == 7 ? dice > 0 : dice == 0) {
            call("real", someReal());
        } else if (manner == 8 ? dice > 0 : dice == 1) {
            call("word", someWord());
        } else {
            call("whole", someLong());
        }
    }

    private void compoundValue() {
        int values = m.count(0);
        int one = seldom(2) ? values - 1 : number(values);
        if (seldom(2)) {
            call("pair", one, seldom(2) ? one : number(values));
        } else {
            call("cons", number(values), seldom(3) ? 0 : one);
        }
    }

    private void function() {
        int functions = m.count(1);
        int dice = random.nextInt(10);
        if (dice < 6 || functions == 0) {
            call("basic", code());
        } else if (dice < 8) {
            int g = number(functions);
            call("behind", fitting(1, m.shape(g, 3)), g);
        } else if (dice < 9) {
            boolean second = random.nextBoolean();
            int f = withArguments(2);
            call("bind", f, valueFor(m.shape(f, second ? 2 : 1)), second);
        } else {
            call("exchange", withArguments(2));
        }
    }

    private int code() {
        if (seldom(30)) {
            return oneOf(-1, 29, 51, Integer.MAX_VALUE);
        }
        return manner == 7 && !seldom(4) ? oneOf(OF_REALS) : manner == 8 && !seldom(4) ? oneOf(OF_WORDS)
            : random.nextInt(51);
    }

    /** A VALUE of this KIND, if one is found soon. */
    private int valueFor(int kind) {
        int value = number(m.count(0));
        for (int i = 0; i < 8 && !ModelFunction.fit(m.kindOfValue(value), kind); i++) {
            value = number(m.count(0));
        }
        return value;
    }

    private int withArguments(int arguments) {
        int f = number(m.count(1));
        for (int i = 0; i < 20 && m.shape(f, 0) != arguments; i++) {
            f = number(m.count(1));
        }
        return f;
    }

    /** A FUNCTION whose last argument can be of this KIND, if one is found soon. */
    private int fitting(int arguments, int kind) {
        int f = withArguments(arguments);
        for (int i = 0; i < 10 && !ModelFunction.fit(m.shape(f, arguments), kind); i++) {
            f = withArguments(arguments);
        }
        return f;
    }

    private void comparator() {
        if (seldom(2)) {
            call("then", number(m.count(2)), number(m.count(2)));
        } else {
            call("key", withArguments(1), random.nextBoolean());
        }
    }

    private void source() {
        int dice = random.nextInt(8);
        if (dice < 3) {
            long a = someLong();
            int many = manner == 4 || seldom(5) ? random.nextInt(700) : random.nextInt(12);
            call("range", a, seldom(12) ? someLong() : a + (seldom(30) ? oneOf(10000, 10001) : many));
        } else if (dice < 5) {
            int f = withArguments(1);
            int most = seldom(6) ? oneOf(0, 1000, 1001, -1, 400) : random.nextInt(9);
            call("iterate", f, valueFor(m.shape(f, 1)), most, seldom(2));
        } else if (dice < 6) {
            call("steps", someReal(), someReal(), seldom(10) ? oneOf(-1, 0, 1000, 1001) : random.nextInt(9));
        } else {
            call("row", valueFor(oneOf(2, 4)));
        }
    }

    private int pipe() {
        int pipes = m.count(3);
        int p = pipes > 0 && seldom(2) ? pipes - 1 : number(pipes);
        for (int i = 0; i < 3 && m.look(p, 8) != 0; i++) {
            p = number(pipes);
        }
        return p;
    }

    private void ofOthers() {
        if (seldom(2)) {
            boolean opens = random.nextBoolean();
            int note = opens ? random.nextInt(9) - 4 : seldom(8) ? oneOf(-1, 1000, 1001) : random.nextInt(6);
            call("guard", pipe(), seldom(20) ? oneOf(5, 8) : opens ? 6 : 7, note);
        } else {
            int p = pipe();
            int q = seldom(5) ? p : pipe();
            call("both", p, q, seldom(20) ? oneOf(7, 11) : 8 + random.nextInt(3), fitting(2, m.look(q, 6)));
        }
        lookAtLast();
    }

    private void lookAtLast() {
        if (seldom(3)) {
            int p = seldom(2) ? m.count(3) - 1 : pipe();
            int what = seldom(20) ? oneOf(-1, 9) : random.nextInt(9);
            call("look", p, what);
            call("look", p, random.nextInt(9));
        }
    }

    private void stage() {
        int p = pipe();
        int sort = manner == 5 && !seldom(6) ? oneOf(REWRITTEN) : seldom(40) ? oneOf(10, 31) : 11 + random.nextInt(20);
        int f = sort == 20 ? random.nextInt(4) - 1 : fitting(sort == 25 ? 2 : 1, m.look(p, 6));
        int a = sort == 25 || sort == 27 ? number(m.count(0)) : amount();
        call("stage", p, sort, f, a);
        lookAtLast();
    }

    private int amount() {
        return seldom(6) ? oneOf(AMOUNTS) : 1 + random.nextInt(4);
    }

    private void rewriteOrForetell() {
        if (manner == 5 ? !seldom(4) : seldom(3)) {
            call("rewrite", pipe());
            call("rule", seldom(30) ? oneOf(-1, 9) : random.nextInt(9));
            lookAtLast();
            return;
        }
        int p = pipe();
        int end = someEnd();
        int f = functionOf(end, p);
        if (seldom(2)) {
            call("foretell", p, end, f, amountOf(end));
        } else {
            call("equal", p, pipe(), end, f, amountOf(end));
        }
        call("count", seldom(3) ? 6 : number(8));
    }

    private int someEnd() {
        return seldom(40) ? oneOf(-1, 20) : seldom(4) ? 10 : random.nextInt(20);
    }

    private int functionOf(int end, int p) {
        return end == 3 || end == 4 || end == 18 ? random.nextInt(4) - 1 : fitting(end == 9 ? 2 : 1, m.look(p, 6));
    }

    private int amountOf(int end) {
        return end == 9 ? number(m.count(0)) : amount();
    }

    private void run() {
        int p = pipe();
        int end = someEnd();
        int answer = call("run", p, end, functionOf(end, p), amountOf(end));
        if (answer < 0 && answer > -100 && !seldom(4)) {
            return;
        }
        askForFailure(answer);
        askForCalls();
        askForResult();
    }

    private void askForFailure(int answer) {
        call("failure", answer < -100 ? 1 : random.nextInt(5));
        call("failure", seldom(30) ? oneOf(-1, 5) : 2 + random.nextInt(3));
        call("given", seldom(2) ? pipe() : number(m.count(3)));
        call("count", 4);
        call("count", 4 + random.nextInt(4));
        for (int k = 0; k < 2 && m.failure(3) > 0; k++) {
            call("closed", number(m.failure(3)), random.nextBoolean());
        }
    }

    private void askForCalls() {
        call("calls", number(m.count(1)));
        int calls = m.count(5);
        for (int i = 0; i < 2 && calls > 0; i++) {
            int k = seldom(4) ? oneOf(0, 99, 100, calls - 1, calls) : number(calls);
            call("call", k);
            call("argument", k, random.nextBoolean());
        }
    }

    private void askForResult() {
        int parts = 0;
        while (m.kind(parts) >= 0) {
            parts++;
        }
        for (int i = 0; i < (parts > 1 ? 3 : 1); i++) {
            int n = i == 0 ? 0 : number(parts);
            call("kind", n);
            call("size", n);
            if (seldom(2)) {
                call("part", n, number(5));
            }
            int kind = m.kind(n);
            if (kind == 1 || seldom(8)) {
                call("measured", n);
            }
            if (kind == 0 || kind == 2 || seldom(8)) {
                call("told", n);
            }
        }
    }
}
