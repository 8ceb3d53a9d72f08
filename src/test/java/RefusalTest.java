/**
 * Refused calls: each one's answer, that the first refusal that holds is the one answered, and that
 * nothing has changed behind it. Each call is made on a world of its own, which is then compared with
 * another one on which it wasn't made.
 */
public final class RefusalTest {
    private static final Check c = new Check("RefusalTest");

    /** What there is no more room for, or that all STEPS are taken. */
    private static final int NOTHING = 0;
    private static final int VALUES = 1;
    private static final int FUNCTIONS = 2;
    private static final int COMPARATORS = 3;
    private static final int PIPELINES = 4;
    private static final int STEPS = 5;
    private static final String[] UNTOUCHED = new String[6];

    /** VALUES of each world; NO is the number of none, here and below. */
    private static final int NO = 99;
    private static final int ONE = 1;
    private static final int HALF = 2;
    private static final int AB = 3;
    private static final int DEEP = 12;
    private static final int FORTY = 52;

    /** FUNCTIONS: of LONGS, of a WORD, of ANY; those of SIZE 19 and 20 are of LONGS. */
    private static final int NEGATED = 0;
    private static final int PLUS = 1;
    private static final int LETTERS = 2;
    private static final int KIND = 3;
    private static final int TWO_OF_19 = 12;
    private static final int TWO_OF_20 = 13;
    private static final int ONE_OF_20 = 14;
    private static final int REAL = 15;
    private static final int WORD = 16;
    private static final int TWICE = 17;

    /** COMPARATORS of 1 and 4 KEYS, of LONGS; one of WORDS. */
    private static final int KEY = 0;
    private static final int FOUR = 2;
    private static final int BY_WORD = 3;

    /** PIPELINES; those of SIZE 40 can't be built on, and the SPENT ones neither. */
    private static final int RANGE = 0;
    private static final int WORDS = 1;
    private static final int SPENT = 2;
    private static final int OF_31 = 6;
    private static final int OF_40 = 15;
    private static final int SPENT_OF_40 = 24;
    private static final int REALS = 25;
    private static final int SKIPS = 27;
    private static final int SPENT_SKIPS = 30;
    private static final int MAPS = 32;
    private static final int SPENT_MAPS = 36;

    public static void main(String[] args) {
        values();
        pairs();
        lists();
        functions();
        behinds();
        binds();
        exchanges();
        comparators();
        sources();
        iterates();
        guards();
        boths();
        zips();
        stages();
        stagesByKind();
        runs();
        equals();
        rewrites();
        asking();
        c.finish();
    }

    private static StageConveyor world(int full) {
        StageConveyor o = new StageConveyor();
        o.whole(1);
        o.real(0.5);
        Kit.word(o, "ab");
        o.pair(ONE, ONE);
        for (int depth = 2; depth < 10; depth++) {
            o.pair(depth + 2, ONE);
        }
        Kit.times(o, ONE, 40);
        buildFunctions(o);
        o.key(NEGATED, false);
        o.then(KEY, KEY);
        o.then(1, 1);
        o.key(LETTERS, true);
        buildPipes(o);
        fill(o, full);
        return o;
    }

    private static void buildFunctions(StageConveyor o) {
        o.basic(0);
        o.basic(30);
        o.basic(11);
        o.basic(24);
        o.behind(NEGATED, PLUS);
        for (int f = 4; f < TWO_OF_19; f++) {
            o.behind(NEGATED, f);
        }
        o.exchange(TWO_OF_19);
        o.bind(TWO_OF_19, ONE, true);
        o.basic(7);
        o.basic(42);
        o.basic(26);
    }

    private static void buildPipes(StageConveyor o) {
        o.range(0, 3);
        o.row(AB);
        o.run(o.row(AB), 0, 0, 0);
        for (int p = 3; p <= OF_31; p++) {
            o.both(p == 3 ? RANGE : p - 1, p == 3 ? RANGE : p - 1, 8, 0);
        }
        for (int p = OF_31; p < OF_40; p++) {
            o.stage(p, 30, 0, 0);
        }
        o.both(OF_31, o.row(AB), 8, 0);
        for (int p = 17; p < SPENT_OF_40; p++) {
            o.stage(p, 30, 0, 0);
        }
        o.run(SPENT_OF_40, 0, 0, 0);
        o.steps(0.0, 1.0, 2);
        o.stage(RANGE, 15, 0, 1);
        o.stage(26, 15, 0, 1);
        o.row(AB);
        o.stage(28, 15, 0, 1);
        o.run(o.stage(29, 15, 0, 1), 0, 0, 0);
        o.stage(RANGE, 12, NEGATED, 0);
        o.stage(31, 12, NEGATED, 0);
        o.row(AB);
        for (int p = 33; p < SPENT_MAPS; p++) {
            o.stage(p, 12, KIND, 0);
        }
        o.run(SPENT_MAPS, 0, 0, 0);
        o.run(o.guard(o.guard(RANGE, 6, -3), 7, 2), 12, NEGATED, 0);
    }

    private static void fill(StageConveyor o, int full) {
        while (full == VALUES && o.count(0) < 60) {
            o.whole(0);
        }
        while (full == FUNCTIONS && o.count(1) < 60) {
            o.basic(0);
        }
        while (full == COMPARATORS && o.count(2) < 20) {
            o.key(NEGATED, true);
        }
        while (full == PIPELINES && o.count(3) < 80) {
            o.range(0, 1);
        }
        int long600 = full == STEPS ? o.range(0, 600) : 0;
        while (full == STEPS && o.count(6) < 16000) {
            o.run(long600, 0, 0, 0);
        }
    }

    /** What could have changed: what there is, what is SPENT, what the latest RUN and rewrite() told. */
    private static String seen(StageConveyor o) {
        StringBuilder so = new StringBuilder(Kit.rules(o));
        for (int i = 0; i < 8; i++) {
            so.append(' ').append(o.count(i));
        }
        for (int i = 0; i < 5; i++) {
            so.append(' ').append(o.failure(i));
        }
        for (int p = 0; p < o.count(3); p++) {
            so.append(' ').append(o.look(p, 8));
        }
        for (int p = RANGE; p < 40; p++) {
            so.append(' ').append(o.given(p));
        }
        for (int f = 0; f <= TWICE; f++) {
            so.append(' ').append(o.calls(f));
        }
        so.append(' ').append(Kit.calls(o)).append(' ').append(Kit.result(o));
        for (int k = 0; k < o.failure(3); k++) {
            so.append(' ').append(o.closed(k, false));
        }
        return so.append(' ').append(o.undo()).append(' ').append(o.undo()).toString();
    }

    private static void due(int want, int full, Check.Answer call) {
        if (UNTOUCHED[full] == null) {
            UNTOUCHED[full] = seen(world(full));
        }
        StageConveyor o = world(full);
        c.due(want, call.of(o));
        c.due(UNTOUCHED[full], seen(o));
    }

    /** It isn't refused: so what is refused beside it isn't for another reason. */
    private static void goes(int full, Check.Answer call) {
        c.due(1, call.of(world(full)) >= 0 ? 1 : 0);
    }

    private static void values() {
        c.about("promise 2: -4");
        goes(NOTHING, o -> o.whole(5));
        due(-4, VALUES, o -> o.whole(5));
        c.about("promise 3: -2, -4");
        goes(NOTHING, o -> o.real(5.0));
        due(-2, NOTHING, o -> o.real(Double.NaN));
        due(-2, VALUES, o -> o.real(Double.POSITIVE_INFINITY));
        due(-4, VALUES, o -> o.real(5.0));
        c.about("promise 4: -2, -4");
        goes(NOTHING, o -> o.word(28));
        due(-2, NOTHING, o -> o.word(27));
        due(-2, VALUES, o -> o.word(-1));
        due(-4, VALUES, o -> o.word(28));
    }

    private static void pairs() {
        c.about("promise 5: -2, -4");
        goes(NOTHING, o -> o.pair(ONE, FORTY));
        due(-2, NOTHING, o -> o.pair(NO, ONE));
        due(-2, NOTHING, o -> o.pair(ONE, NO));
        due(-2, VALUES, o -> o.pair(ONE, NO));
        due(-2, NOTHING, o -> o.pair(DEEP, NO));
        due(-2, NOTHING, o -> o.pair(NO, DEEP));
        due(-4, VALUES, o -> o.pair(ONE, ONE));
        due(-4, NOTHING, o -> o.pair(DEEP, ONE));
        due(-4, NOTHING, o -> o.pair(ONE, DEEP));
    }

    private static void lists() {
        c.about("promise 6: -2, -4");
        goes(NOTHING, o -> o.cons(ONE, FORTY - 1));
        due(-2, NOTHING, o -> o.cons(NO, 0));
        due(-2, NOTHING, o -> o.cons(ONE, NO));
        due(-2, NOTHING, o -> o.cons(ONE, ONE));
        due(-2, NOTHING, o -> o.cons(DEEP, ONE));
        due(-2, NOTHING, o -> o.cons(NO, FORTY));
        due(-2, VALUES, o -> o.cons(NO, 0));
        due(-2, VALUES, o -> o.cons(ONE, AB));
        due(-4, VALUES, o -> o.cons(ONE, 0));
        due(-4, NOTHING, o -> o.cons(ONE, FORTY));
        due(-4, NOTHING, o -> o.cons(DEEP, 0));
    }

    private static void functions() {
        c.about("promise 7: -2, -4");
        goes(NOTHING, o -> o.basic(50));
        due(-2, NOTHING, o -> o.basic(29));
        due(-2, FUNCTIONS, o -> o.basic(51));
        due(-2, FUNCTIONS, o -> o.basic(-1));
        due(-4, FUNCTIONS, o -> o.basic(50));
    }

    private static void behinds() {
        c.about("promise 8: -2, -3, -4");
        goes(NOTHING, o -> o.behind(NEGATED, PLUS));
        due(-2, NOTHING, o -> o.behind(NO, NEGATED));
        due(-2, NOTHING, o -> o.behind(NEGATED, NO));
        due(-2, NOTHING, o -> o.behind(PLUS, NEGATED));
        // f is of two arguments, and their KINDS don't FIT either
        due(-2, NOTHING, o -> o.behind(PLUS, REAL));
        due(-2, FUNCTIONS, o -> o.behind(NO, NEGATED));
        due(-2, NOTHING, o -> o.behind(NO, TWO_OF_20));
        due(-3, NOTHING, o -> o.behind(LETTERS, NEGATED));
        due(-3, FUNCTIONS, o -> o.behind(LETTERS, NEGATED));
        due(-3, NOTHING, o -> o.behind(LETTERS, TWO_OF_20));
        due(-4, FUNCTIONS, o -> o.behind(NEGATED, NEGATED));
        due(-4, NOTHING, o -> o.behind(NEGATED, TWO_OF_19));
        due(-4, NOTHING, o -> o.behind(ONE_OF_20, NEGATED));
    }

    private static void binds() {
        c.about("promise 9: -2, -3, -4");
        for (int i = 0; i < 2; i++) {
            boolean second = i == 1;
            goes(NOTHING, o -> o.bind(TWO_OF_19, ONE, second));
            due(-2, NOTHING, o -> o.bind(NO, ONE, second));
            due(-2, NOTHING, o -> o.bind(NEGATED, ONE, second));
            due(-2, NOTHING, o -> o.bind(PLUS, NO, second));
            due(-2, NOTHING, o -> o.bind(NEGATED, AB, second));
            due(-2, FUNCTIONS, o -> o.bind(NO, ONE, second));
            due(-2, NOTHING, o -> o.bind(TWO_OF_20, NO, second));
            due(-3, NOTHING, o -> o.bind(PLUS, AB, second));
            due(-3, FUNCTIONS, o -> o.bind(PLUS, AB, second));
            due(-3, NOTHING, o -> o.bind(TWO_OF_20, HALF, second));
            due(-4, FUNCTIONS, o -> o.bind(PLUS, ONE, second));
            due(-4, NOTHING, o -> o.bind(TWO_OF_20, ONE, second));
        }
    }

    private static void exchanges() {
        c.about("promise 10: -2, -4");
        goes(NOTHING, o -> o.exchange(TWO_OF_19));
        due(-2, NOTHING, o -> o.exchange(NO));
        due(-2, NOTHING, o -> o.exchange(NEGATED));
        due(-2, FUNCTIONS, o -> o.exchange(NEGATED));
        due(-2, NOTHING, o -> o.exchange(ONE_OF_20));
        due(-4, FUNCTIONS, o -> o.exchange(PLUS));
        due(-4, NOTHING, o -> o.exchange(TWO_OF_20));
    }

    private static void comparators() {
        c.about("promise 11: -2, -4");
        goes(NOTHING, o -> o.key(ONE_OF_20, true));
        due(-2, NOTHING, o -> o.key(NO, true));
        due(-2, NOTHING, o -> o.key(PLUS, true));
        due(-2, COMPARATORS, o -> o.key(PLUS, true));
        due(-4, COMPARATORS, o -> o.key(NEGATED, true));
        c.about("promise 12: -2, -4");
        goes(NOTHING, o -> o.then(KEY, 1));
        due(-2, NOTHING, o -> o.then(NO, KEY));
        due(-2, NOTHING, o -> o.then(KEY, NO));
        due(-2, NOTHING, o -> o.then(FOUR, KEY));
        due(-2, COMPARATORS, o -> o.then(KEY, NO));
        due(-2, COMPARATORS, o -> o.then(KEY, FOUR));
        due(-4, COMPARATORS, o -> o.then(KEY, KEY));
    }

    private static void sources() {
        c.about("promise 13: -2, -4");
        goes(NOTHING, o -> o.range(0, 10000));
        due(-2, NOTHING, o -> o.range(0, 10001));
        due(-2, PIPELINES, o -> o.range(0, 10001));
        due(-4, PIPELINES, o -> o.range(0, 10000));
        due(-4, PIPELINES, o -> o.range(1, 0));
        c.about("promise 15: -2, -4");
        goes(NOTHING, o -> o.steps(0.0, 1.0, 1000));
        due(-2, NOTHING, o -> o.steps(0.0, 1.0, 1001));
        due(-2, NOTHING, o -> o.steps(1e10, 1.0, 1));
        due(-2, NOTHING, o -> o.steps(1.0, Double.NaN, 1));
        due(-2, PIPELINES, o -> o.steps(0.0, 1.0, -1));
        due(-2, PIPELINES, o -> o.steps(0.0, -1e10, 1));
        due(-4, PIPELINES, o -> o.steps(0.0, 1.0, 1000));
        c.about("promise 16: -2, -4");
        goes(NOTHING, o -> o.row(AB));
        due(-2, NOTHING, o -> o.row(NO));
        due(-2, NOTHING, o -> o.row(ONE));
        due(-2, PIPELINES, o -> o.row(HALF));
        due(-4, PIPELINES, o -> o.row(AB));
        due(-4, PIPELINES, o -> o.row(0));
    }

    private static void iterates() {
        c.about("promise 14: -2, -3, -4");
        goes(NOTHING, o -> o.iterate(NEGATED, ONE, 1000, false));
        due(-2, NOTHING, o -> o.iterate(NO, ONE, 1, false));
        due(-2, NOTHING, o -> o.iterate(PLUS, ONE, 1, false));
        due(-2, NOTHING, o -> o.iterate(NEGATED, NO, 1, false));
        due(-2, NOTHING, o -> o.iterate(NEGATED, ONE, 1001, false));
        due(-2, NOTHING, o -> o.iterate(NEGATED, AB, -1, false));
        due(-2, NOTHING, o -> o.iterate(PLUS, AB, 1, false));
        due(-2, PIPELINES, o -> o.iterate(NEGATED, ONE, 1001, false));
        due(-2, NOTHING, o -> o.iterate(NEGATED, ONE, 1001, true));
        due(-3, NOTHING, o -> o.iterate(NEGATED, AB, 1, false));
        due(-3, NOTHING, o -> o.iterate(LETTERS, AB, 1, false));
        goes(NOTHING, o -> o.iterate(TWICE, ONE, 1, true));
        due(-3, NOTHING, o -> o.iterate(NEGATED, ONE, 1, true));
        due(-3, PIPELINES, o -> o.iterate(LETTERS, AB, 1, false));
        due(-3, PIPELINES, o -> o.iterate(NEGATED, ONE, 1, true));
        due(-4, PIPELINES, o -> o.iterate(NEGATED, ONE, 1, false));
        due(-4, PIPELINES, o -> o.iterate(TWICE, ONE, 1, true));
    }

    private static void guards() {
        c.about("promise 17: -1, -2, -4, -5");
        goes(NOTHING, o -> o.guard(WORDS, 6, 0));
        goes(NOTHING, o -> o.guard(WORDS, 7, 1000));
        due(-1, NOTHING, o -> o.guard(NO, 6, 0));
        due(-1, NOTHING, o -> o.guard(NO, 5, 0));
        due(-1, NOTHING, o -> o.guard(NO, 7, -1));
        due(-1, PIPELINES, o -> o.guard(NO, 6, 0));
        due(-2, NOTHING, o -> o.guard(RANGE, 5, 0));
        due(-2, NOTHING, o -> o.guard(RANGE, 7, 1001));
        due(-2, PIPELINES, o -> o.guard(RANGE, 8, 0));
        due(-2, NOTHING, o -> o.guard(OF_40, 7, -1));
        due(-2, NOTHING, o -> o.guard(SPENT, 7, -1));
        due(-2, NOTHING, o -> o.guard(SPENT_OF_40, 5, 0));
        due(-4, PIPELINES, o -> o.guard(RANGE, 6, 0));
        due(-4, NOTHING, o -> o.guard(OF_40, 6, 0));
        due(-4, PIPELINES, o -> o.guard(SPENT, 6, 0));
        due(-4, NOTHING, o -> o.guard(SPENT_OF_40, 7, 0));
        due(-5, NOTHING, o -> o.guard(SPENT, 6, 0));
        due(-5, NOTHING, o -> o.guard(SPENT, 7, 0));
    }

    private static void boths() {
        c.about("promise 18: -1, -2, -4, -5");
        int[] sorts = {8, 10};
        for (int sort : sorts) {
            goes(NOTHING, o -> o.both(RANGE, WORDS, sort, NO));
            due(-1, NOTHING, o -> o.both(NO, RANGE, sort, 0));
            due(-1, NOTHING, o -> o.both(RANGE, NO, sort, 0));
            due(-1, NOTHING, o -> o.both(RANGE, NO, sort + 30, 0));
            due(-1, PIPELINES, o -> o.both(RANGE, NO, sort, 0));
            due(-1, NOTHING, o -> o.both(SPENT, NO, sort, 0));
            due(-2, NOTHING, o -> o.both(RANGE, RANGE, sort + 30, 0));
            due(-2, PIPELINES, o -> o.both(RANGE, RANGE, sort + 30, 0));
            due(-2, NOTHING, o -> o.both(OF_40, RANGE, sort + 30, 0));
            due(-2, NOTHING, o -> o.both(SPENT, RANGE, sort + 30, 0));
            due(-4, PIPELINES, o -> o.both(RANGE, RANGE, sort, 0));
            due(-4, NOTHING, o -> o.both(OF_40, RANGE, sort, 0));
            due(-4, NOTHING, o -> o.both(RANGE, OF_40, sort, 0));
            due(-4, NOTHING, o -> o.both(OF_31, OF_31, sort, 0));
            due(-4, NOTHING, o -> o.both(OF_40, SPENT, sort, 0));
            due(-4, PIPELINES, o -> o.both(WORDS, WORDS, sort, 0));
            due(-5, NOTHING, o -> o.both(SPENT, RANGE, sort, 0));
            due(-5, NOTHING, o -> o.both(RANGE, SPENT, sort, 0));
            due(-5, NOTHING, o -> o.both(WORDS, SPENT, sort, 0));
            due(-5, NOTHING, o -> o.both(SPENT, WORDS, sort, 0));
            due(-5, NOTHING, o -> o.both(WORDS, WORDS, sort, 0));
            due(-5, NOTHING, o -> o.both(SPENT, SPENT, sort, 0));
        }
    }

    private static void zips() {
        c.about("promise 18, ZIPPED: -1, -2, -3, -4, -5");
        goes(NOTHING, o -> o.both(RANGE, RANGE, 9, PLUS));
        due(-1, NOTHING, o -> o.both(NO, RANGE, 9, PLUS));
        due(-1, NOTHING, o -> o.both(RANGE, NO, 9, NO));
        due(-2, NOTHING, o -> o.both(RANGE, RANGE, 9, NO));
        due(-2, NOTHING, o -> o.both(RANGE, RANGE, 9, NEGATED));
        due(-2, NOTHING, o -> o.both(WORDS, RANGE, 9, NEGATED));
        due(-2, PIPELINES, o -> o.both(RANGE, RANGE, 9, NO));
        due(-2, NOTHING, o -> o.both(SPENT, RANGE, 9, NO));
        due(-3, NOTHING, o -> o.both(RANGE, REALS, 9, PLUS));
        due(-3, NOTHING, o -> o.both(REALS, RANGE, 9, PLUS));
        due(-3, PIPELINES, o -> o.both(REALS, RANGE, 9, PLUS));
        due(-3, NOTHING, o -> o.both(OF_40, REALS, 9, PLUS));
        due(-3, NOTHING, o -> o.both(SPENT, RANGE, 9, PLUS));
        due(-3, NOTHING, o -> o.both(RANGE, WORDS, 9, WORD));
        due(-4, PIPELINES, o -> o.both(RANGE, RANGE, 9, PLUS));
        due(-4, NOTHING, o -> o.both(OF_40, RANGE, 9, PLUS));
        due(-4, PIPELINES, o -> o.both(SPENT, WORDS, 9, WORD));
        due(-5, NOTHING, o -> o.both(WORDS, WORDS, 9, WORD));
        due(-5, NOTHING, o -> o.both(SPENT, WORDS, 9, WORD));
        due(-5, NOTHING, o -> o.both(WORDS, SPENT, 9, WORD));
    }

    private static void stages() {
        c.about("promise 19: -1, -2, -4, -5");
        int[] sorts = {15, 16, 22, 23, 29};
        for (int sort : sorts) {
            goes(NOTHING, o -> o.stage(WORDS, sort, NO, 1));
            due(-1, NOTHING, o -> o.stage(NO, sort, 0, 1));
            due(-1, NOTHING, o -> o.stage(NO, sort, 0, -1));
            due(-1, PIPELINES, o -> o.stage(NO, sort, 0, 1));
            due(-2, NOTHING, o -> o.stage(RANGE, sort, 0, -1));
            due(-2, PIPELINES, o -> o.stage(RANGE, sort, 0, 10001));
            due(-2, NOTHING, o -> o.stage(OF_40, sort, 0, -1));
            due(-2, NOTHING, o -> o.stage(SPENT, sort, 0, 10001));
            due(-4, PIPELINES, o -> o.stage(RANGE, sort, 0, 1));
            due(-4, NOTHING, o -> o.stage(OF_40, sort, 0, 1));
            due(-4, NOTHING, o -> o.stage(SPENT_OF_40, sort, 0, 1));
            due(-4, PIPELINES, o -> o.stage(SPENT, sort, 0, 1));
            due(-5, NOTHING, o -> o.stage(SPENT, sort, 0, 1));
        }
        int[] plain = {19, 21, 24, 30};
        for (int sort : plain) {
            goes(NOTHING, o -> o.stage(WORDS, sort, NO, NO));
            due(-1, NOTHING, o -> o.stage(NO, sort, 0, 0));
            due(-4, PIPELINES, o -> o.stage(RANGE, sort, 0, 0));
            due(-4, NOTHING, o -> o.stage(SPENT_OF_40, sort, 0, 0));
            due(-5, NOTHING, o -> o.stage(SPENT, sort, 0, 0));
        }
        due(-1, NOTHING, o -> o.stage(NO, 31, 0, 0));
        due(-2, NOTHING, o -> o.stage(RANGE, 31, 0, 0));
        due(-2, NOTHING, o -> o.stage(RANGE, 10, 0, 0));
        due(-2, PIPELINES, o -> o.stage(RANGE, 31, 0, 0));
        due(-2, NOTHING, o -> o.stage(SPENT, 10, 0, 0));
    }

    private static void stagesByKind() {
        c.about("promise 19: -1, -2, -3, -4, -5");
        int[] ofOne = {11, 12, 14, 17, 18, 26, 28};
        for (int sort : ofOne) {
            goes(NOTHING, o -> o.stage(WORDS, sort, LETTERS, 1));
            due(-1, NOTHING, o -> o.stage(NO, sort, NO, 1));
            due(-2, NOTHING, o -> o.stage(RANGE, sort, NO, 1));
            due(-2, NOTHING, o -> o.stage(WORDS, sort, PLUS, 1));
            due(-2, PIPELINES, o -> o.stage(WORDS, sort, NO, 1));
            due(-2, NOTHING, o -> o.stage(SPENT, sort, PLUS, 1));
            due(-3, NOTHING, o -> o.stage(WORDS, sort, NEGATED, 1));
            due(-3, PIPELINES, o -> o.stage(WORDS, sort, NEGATED, 1));
            due(-3, NOTHING, o -> o.stage(OF_40, sort, LETTERS, 1));
            due(-3, NOTHING, o -> o.stage(SPENT, sort, NEGATED, 1));
            due(-4, PIPELINES, o -> o.stage(SPENT, sort, LETTERS, 1));
            due(-4, NOTHING, o -> o.stage(OF_40, sort, NEGATED, 1));
            due(-4, NOTHING, o -> o.stage(SPENT_OF_40, sort, KIND, 1));
            due(-5, NOTHING, o -> o.stage(SPENT, sort, LETTERS, 1));
        }
        c.about("promise 19, RETRIED: a out of range ahead of KINDS");
        due(-2, NOTHING, o -> o.stage(WORDS, 28, NEGATED, 0));
        due(-2, NOTHING, o -> o.stage(WORDS, 28, NEGATED, 4));
        c.about("promise 19, FLAT");
        due(-2, NOTHING, o -> o.stage(WORDS, 13, NO, 0));
        due(-3, NOTHING, o -> o.stage(WORDS, 13, LETTERS, 0));
        due(-3, NOTHING, o -> o.stage(SPENT, 13, LETTERS, 0));
        c.about("promise 19, SORTED");
        goes(NOTHING, o -> o.stage(WORDS, 20, BY_WORD, 0));
        due(-1, NOTHING, o -> o.stage(NO, 20, NO, 0));
        due(-2, NOTHING, o -> o.stage(WORDS, 20, NO, 0));
        due(-2, NOTHING, o -> o.stage(WORDS, 20, -2, 0));
        due(-2, NOTHING, o -> o.stage(SPENT, 20, -2, 0));
        due(-3, NOTHING, o -> o.stage(WORDS, 20, FOUR, 0));
        due(-3, PIPELINES, o -> o.stage(RANGE, 20, BY_WORD, 0));
        due(-3, NOTHING, o -> o.stage(SPENT, 20, KEY, 0));
        due(-4, PIPELINES, o -> o.stage(SPENT, 20, BY_WORD, 0));
        due(-5, NOTHING, o -> o.stage(SPENT, 20, BY_WORD, 0));
        due(-5, NOTHING, o -> o.stage(SPENT, 20, -1, 0));
        c.about("promise 19, FOLDED and RESCUED");
        goes(NOTHING, o -> o.stage(RANGE, 25, PLUS, ONE));
        due(-2, NOTHING, o -> o.stage(RANGE, 25, NO, ONE));
        due(-2, NOTHING, o -> o.stage(RANGE, 25, PLUS, NO));
        due(-2, NOTHING, o -> o.stage(WORDS, 25, PLUS, NO));
        due(-2, NOTHING, o -> o.stage(SPENT, 25, NEGATED, ONE));
        due(-3, NOTHING, o -> o.stage(RANGE, 25, PLUS, AB));
        due(-3, NOTHING, o -> o.stage(WORDS, 25, PLUS, ONE));
        due(-3, PIPELINES, o -> o.stage(RANGE, 25, PLUS, AB));
        due(-3, NOTHING, o -> o.stage(SPENT, 25, PLUS, ONE));
        due(-4, PIPELINES, o -> o.stage(SPENT, 25, WORD, AB));
        due(-4, NOTHING, o -> o.stage(OF_40, 25, PLUS, ONE));
        due(-5, NOTHING, o -> o.stage(SPENT, 25, WORD, AB));
        goes(NOTHING, o -> o.stage(WORDS, 27, NO, AB));
        due(-2, NOTHING, o -> o.stage(SPENT, 27, 0, NO));
        due(-2, PIPELINES, o -> o.stage(RANGE, 27, 0, NO));
        due(-4, PIPELINES, o -> o.stage(SPENT, 27, 0, AB));
        due(-5, NOTHING, o -> o.stage(SPENT, 27, 0, AB));
    }

    /** run() and foretell() are refused alike. */
    private static void dueRun(int want, int full, int p, int end, int f, int a) {
        due(want, full, o -> o.run(p, end, f, a));
        due(want, full, o -> o.foretell(p, end, f, a));
    }

    private static void runs() {
        c.about("promises 20, 21: -1, -2, -3, -5, -6");
        goes(NOTHING, o -> o.run(RANGE, 12, NEGATED, 0));
        goes(PIPELINES, o -> o.run(RANGE, 12, NEGATED, 0));
        goes(NOTHING, o -> o.run(WORDS, 0, 0, 0));
        dueRun(-1, NOTHING, NO, 0, 0, 0);
        dueRun(-1, NOTHING, NO, 20, 0, 0);
        dueRun(-1, NOTHING, NO, 12, NO, 0);
        dueRun(-1, STEPS, NO, 0, 0, 0);
        dueRun(-2, NOTHING, RANGE, 20, 0, 0);
        dueRun(-2, NOTHING, RANGE, 12, NO, 0);
        dueRun(-2, NOTHING, WORDS, 9, PLUS, NO);
        dueRun(-2, NOTHING, WORDS, 9, NEGATED, AB);
        dueRun(-2, NOTHING, WORDS, 18, KEY, 11);
        dueRun(-2, NOTHING, WORDS, 3, NO, 0);
        dueRun(-2, NOTHING, SPENT, 11, 0, -1);
        dueRun(-2, NOTHING, SPENT, 20, 0, 0);
        dueRun(-2, STEPS, RANGE, 20, 0, 0);
        dueRun(-3, NOTHING, WORDS, 1, 0, 0);
        dueRun(-3, NOTHING, WORDS, 12, NEGATED, 0);
        dueRun(-3, NOTHING, RANGE, 6, REAL, 0);
        dueRun(-3, NOTHING, WORDS, 4, KEY, 0);
        dueRun(-3, NOTHING, RANGE, 9, PLUS, AB);
        dueRun(-3, NOTHING, SPENT, 2, 0, 0);
        dueRun(-3, NOTHING, SPENT, 12, NEGATED, 0);
        dueRun(-3, STEPS, WORDS, 17, 0, 0);
        dueRun(-5, NOTHING, SPENT, 0, 0, 0);
        dueRun(-5, NOTHING, SPENT, 12, LETTERS, 0);
        dueRun(-5, STEPS, SPENT, 0, 0, 0);
        dueRun(-6, STEPS, RANGE, 0, 0, 0);
        dueRun(-6, STEPS, WORDS, 16, 0, 0);
    }

    private static void equals() {
        c.about("promise 22: as foretell(p), then as foretell(q)");
        goes(NOTHING, o -> o.equal(RANGE, WORDS, 0, 0, 0));
        due(-1, NOTHING, o -> o.equal(NO, RANGE, 0, 0, 0));
        due(-1, NOTHING, o -> o.equal(RANGE, NO, 0, 0, 0));
        due(-1, NOTHING, o -> o.equal(NO, SPENT, 20, 0, 0));
        due(-2, NOTHING, o -> o.equal(RANGE, RANGE, 20, 0, 0));
        due(-2, NOTHING, o -> o.equal(RANGE, NO, 20, 0, 0));
        due(-2, NOTHING, o -> o.equal(RANGE, NO, 12, NO, 0));
        due(-3, NOTHING, o -> o.equal(WORDS, RANGE, 1, 0, 0));
        due(-3, NOTHING, o -> o.equal(RANGE, WORDS, 1, 0, 0));
        due(-3, NOTHING, o -> o.equal(WORDS, NO, 1, 0, 0));
        due(-3, NOTHING, o -> o.equal(RANGE, SPENT, 1, 0, 0));
        due(-5, NOTHING, o -> o.equal(SPENT, RANGE, 0, 0, 0));
        due(-5, NOTHING, o -> o.equal(RANGE, SPENT, 0, 0, 0));
        due(-5, NOTHING, o -> o.equal(SPENT, NO, 0, 0, 0));
        due(-5, NOTHING, o -> o.equal(SPENT, RANGE, 16, 0, 0));
        due(-5, STEPS, o -> o.equal(SPENT, RANGE, 0, 0, 0));
        due(-6, STEPS, o -> o.equal(RANGE, RANGE, 0, 0, 0));
        due(-6, STEPS, o -> o.equal(RANGE, NO, 0, 0, 0));
        due(-6, STEPS, o -> o.equal(RANGE, SPENT, 0, 0, 0));
        due(-6, STEPS, o -> o.equal(RANGE, WORDS, 1, 0, 0));
    }

    private static void rewrites() {
        c.about("promise 34: -1, -4, -5");
        goes(NOTHING, o -> o.rewrite(SKIPS));
        goes(NOTHING, o -> o.rewrite(MAPS));
        due(-1, NOTHING, o -> o.rewrite(NO));
        due(-1, NOTHING, o -> o.rewrite(-1));
        due(-1, PIPELINES, o -> o.rewrite(-1));
        due(-4, PIPELINES, o -> o.rewrite(SKIPS));
        due(-4, PIPELINES, o -> o.rewrite(MAPS));
        due(-4, FUNCTIONS, o -> o.rewrite(MAPS));
        due(-4, PIPELINES, o -> o.rewrite(SPENT_SKIPS));
        due(-4, FUNCTIONS, o -> o.rewrite(SPENT_MAPS));
        due(-5, NOTHING, o -> o.rewrite(SPENT_SKIPS));
        due(-5, NOTHING, o -> o.rewrite(SPENT_MAPS));
        goes(FUNCTIONS, o -> o.rewrite(SKIPS));
    }

    /** Calls that only ask change nothing, whatever they are asked. */
    private static void asking() {
        c.about("promises 23 to 25, 28, 29, 31, 32, 35 to 37, 39: asked for what isn't there");
        due(-1, NOTHING, o -> o.kind(0));
        due(-1, NOTHING, o -> o.size(0));
        due(-1, NOTHING, o -> o.part(0, 0));
        due(-1, NOTHING, o -> o.calls(18));
        due(-1, NOTHING, o -> o.call(2));
        due(-1, NOTHING, o -> o.given(NO));
        due(-2, NOTHING, o -> o.failure(5));
        due(-2, NOTHING, o -> o.rule(9));
        due(-1, NOTHING, o -> o.look(NO, 0));
        due(-1, NOTHING, o -> o.look(NO, 9));
        due(-2, NOTHING, o -> o.look(RANGE, 9));
        due(-2, NOTHING, o -> o.shape(18, 0));
        due(-2, NOTHING, o -> o.shape(NEGATED, 5));
        due(-2, NOTHING, o -> o.count(8));
    }
}
