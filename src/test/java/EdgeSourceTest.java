/** The edges of sources, and promises 13 to 18. */
public final class EdgeSourceTest {
    private static final Check c = new Check("EdgeSourceTest");
    private static final long MAX = Long.MAX_VALUE;
    private static final long MIN = Long.MIN_VALUE;
    private static StageConveyor x;

    public static void main(String[] args) {
        range();
        rangeRefused();
        iterate();
        iterateKinds();
        iterateRefused();
        iterateFits();
        unfold();
        unfoldRefused();
        steps();
        stepsRefused();
        row();
        letters();
        rowRefused();
        opened();
        failing();
        guardRefused();
        joined();
        zipped();
        zippedKinds();
        interleaved();
        sharedKinds();
        endedIsNotAsked();
        bothRefused();
        restarts();
        spentTogether();
        eightieth();
        sizeOfForty();
        c.finish();
    }

    private static String all(int p) {
        return Kit.all(x, p);
    }

    private static void range() {
        c.about("promise 13: a, a + 1, .. below b");
        x = new StageConveyor();
        c.due("[-1, 0, 1]", all(x.range(-1, 2)));
        c.due("[5]", all(x.range(5, 6)));
        c.due("[9223372036854775806]", all(x.range(MAX - 1, MAX)));
        c.due("[-9223372036854775808, -9223372036854775807]", all(x.range(MIN, MIN + 2)));
        c.about("promise 13: nothing, if b isn't above a");
        c.due("[]", all(x.range(5, 5)));
        c.due("[]", all(x.range(5, 4)));
        c.due("[]", all(x.range(MIN, MIN)));
        c.due("[]", all(x.range(MAX, MAX)));
        c.due("[]", all(x.range(MAX, MIN)));
        c.due("[]", all(x.range(0, MIN)));
        c.due("[]", all(x.range(10001, 0)));
        c.due(0, x.count(4));
    }

    private static void rangeRefused() {
        c.about("promise 13: -2, b - a, exactly, above 10000");
        x = new StageConveyor();
        c.due(0, x.range(0, 10000));
        c.due(-2, x.range(0, 10001));
        c.due(1, x.range(-10000, 0));
        c.due(-2, x.range(-10001, 0));
        c.due(2, x.range(MIN, MIN + 10000));
        c.due(-2, x.range(MIN, MIN + 10001));
        c.due(3, x.range(MAX - 10000, MAX));
        c.due(-2, x.range(MAX - 10001, MAX));
        // beyond a long, and beyond an int
        c.due(-2, x.range(MIN, MAX));
        c.due(-2, x.range(-1, MAX));
        c.due(-2, x.range(MIN, 0));
        c.due(-2, x.range(MIN / 2 - 1, MAX / 2 + 1));
        c.due(-2, x.range(0, 1L << 32));
        c.due(-2, x.range(0, (1L << 32) + 5));
        c.due(4, x.count(3));
        c.due(4, x.count(7));
        c.due("fails 9 at 0 given 600", Kit.run(x, 0, 0, 0, 0));
    }

    private static void iterate() {
        c.about("promise 14: as many as told at most");
        x = new StageConveyor();
        int negated = x.basic(0);
        int one = x.whole(1);
        c.due("[]", all(x.iterate(negated, one, 0, false)));
        c.due(0, x.count(4));
        c.due("[1]", all(x.iterate(negated, one, 1, false)));
        c.due(0, x.count(5));
        c.due("[1, -1]", all(x.iterate(negated, one, 2, false)));
        c.due(1, x.count(5));
        c.due("[1, -1, 1]", all(x.iterate(negated, one, 3, false)));
        c.due(3 + 2 + 3, x.count(4));
        c.about("promise 14: f is called when the next one is asked for");
        int bad = x.bind(x.basic(33), x.whole(0), true);
        c.due("1", Kit.run(x, x.iterate(bad, one, 2, false), 5, 0, 0));
        c.due(0, x.count(5));
        int failing = x.iterate(bad, one, 2, false);
        c.due("fails 2 at " + failing + " given 1", Kit.run(x, failing, 0, 0, 0));
        c.about("promise 14: wraps");
        int next = x.bind(x.basic(30), one, true);
        c.due("[9223372036854775807, -9223372036854775808]", all(x.iterate(next, x.whole(MAX), 2, false)));
    }

    private static void iterateKinds() {
        c.about("promise 14: its KIND is the VALUE's, if f's answers have that, else ANY");
        x = new StageConveyor();
        int one = x.whole(1);
        int list = Kit.longs(x, 1, 2);
        c.due(0, x.look(x.iterate(x.basic(0), one, 3, false), 6));
        c.due(1, x.look(x.iterate(x.basic(9), x.real(1.0), 3, false), 6));
        c.due(2, x.look(x.iterate(x.basic(12), x.word(1), 3, false), 6));
        c.due(3, x.look(x.iterate(x.basic(17), x.pair(0, 0), 3, false), 6));
        c.due(4, x.look(x.iterate(x.basic(21), list, 3, false), 6));
        c.due(0, x.look(x.iterate(x.basic(24), one, 3, false), 6));
        c.due(5, x.look(x.iterate(x.basic(24), list, 3, false), 6));
        c.due(5, x.look(x.iterate(x.basic(19), list, 3, false), 6));
        c.due(5, x.look(x.iterate(x.basic(27), one, 3, false), 6));
        c.due(4, x.look(x.iterate(x.basic(23), list, 3, false), 6));
        c.due(5, x.look(x.iterate(x.basic(23), one, 3, false), 6));
    }

    private static void iterateRefused() {
        c.about("promise 14: most 0 to 1000");
        x = new StageConveyor();
        int negated = x.basic(0);
        int plus = x.basic(30);
        int one = x.whole(1);
        int[] out = {-1, 1001, Integer.MAX_VALUE, Integer.MIN_VALUE};
        for (int most : out) {
            c.due(-2, x.iterate(negated, one, most, false));
            c.due(-2, x.iterate(x.count(1) - 2, one, most, true));
        }
        c.due(0, x.iterate(negated, one, 0, false));
        c.due(1, x.iterate(negated, one, 1000, false));
        c.due(1000, x.look(1, 4));
        c.about("promise 14: -2, no such FUNCTION or VALUE, f not of one argument");
        int[] none = {-1, 2, 3, 60, Integer.MAX_VALUE, Integer.MIN_VALUE};
        for (int n : none) {
            c.due(-2, x.iterate(n, one, 1, false));
            c.due(-2, x.iterate(negated, n, 1, false));
        }
        c.due(-2, x.iterate(plus, one, 1, false));
        c.about("promise 14: -3, what f asks for with the VALUE's KIND, and with f's answer");
        c.due(-3, x.iterate(negated, 0, 1, false));
        c.due(-3, x.iterate(x.basic(7), one, 1, false));
        c.due(-3, x.iterate(x.basic(11), x.word(1), 1, false));
        c.due(2, x.count(3));
        c.due(2, x.iterate(x.basic(25), 0, 1, false));
    }

    private static void iterateFits() {
        c.about("KINDS must FIT: what f of 1 and 2 asks for with the VALUE's KIND");
        int[] codes = {0, 9, 12, 17, 21, 27};
        for (int asked = 0; asked < 6; asked++) {
            x = new StageConveyor();
            int[] values = {x.whole(1), x.real(1.0), x.word(1), x.pair(0, 0), 0};
            int f = x.basic(codes[asked]);
            int paired = x.behind(x.basic(26), f);
            int made = 0;
            for (int kind = 0; kind < 5; kind++) {
                boolean right = asked == 5 || asked == kind;
                c.due(right ? made++ : -3, x.iterate(f, values[kind], 1, false));
                c.due(right ? made++ : -3, x.iterate(paired, values[kind], 1, true));
            }
        }
        c.about("KINDS must FIT: of 1 what f asks for with f's answer, too");
        int[] asks = {0, 9, 11, 15, 18, 24};
        int[] answers = {24, 7, 12, 26, 23, 27};
        for (int from = 0; from < 6; from++) {
            for (int to = 0; to < 6; to++) {
                x = new StageConveyor();
                int[] values = {x.whole(1), x.real(1.0), x.word(1), x.pair(0, 0), 0};
                // the one between them answers ANY, so that any two KINDS can be put together
                int inner = x.behind(x.bind(x.basic(49), 0, true), x.basic(asks[from]));
                int f = x.behind(x.basic(answers[to]), inner);
                c.due(from, x.shape(f, 1));
                c.due(to, x.shape(f, 3));
                boolean right = from == to || from == 5 || to == 5;
                c.due(right ? 0 : -3, x.iterate(f, values[from == 5 ? 0 : from], 1, false));
                boolean pairs = to == 3 || to == 5;
                c.due(pairs ? right ? 1 : 0 : -3, x.iterate(f, values[from == 5 ? 0 : from], 1, true));
            }
        }
    }

    private static void unfold() {
        c.about("promise 14: the first part is the element, the second the new state");
        x = new StageConveyor();
        int itself = x.bind(x.basic(49), 0, true);
        int four = x.whole(4);
        int so = x.pair(x.whole(3), four);
        so = x.pair(x.whole(2), so);
        so = x.pair(x.whole(1), so);
        c.due("[]", all(x.iterate(itself, so, 0, true)));
        c.due(0, x.count(5));
        c.due("[1]", all(x.iterate(itself, so, 1, true)));
        c.due("[1, 2]", all(x.iterate(itself, so, 2, true)));
        c.due("[1, 2, 3]", all(x.iterate(itself, so, 3, true)));
        c.due(3, x.calls(itself));
        c.due(3 + 6 + 3, x.count(4));
        c.about("promise 14: else FAILS KIND");
        int over = x.iterate(itself, so, 4, true);
        c.due("fails 1 at " + over + " given 3", all(over));
        c.due(4, x.calls(itself));
        // a CALL and no element: no STEP is taken for it
        c.due(3 + 8, x.count(4));
        int[] others = {four, x.real(1.0), x.word(1), 0, Kit.longs(x, 1, 2)};
        for (int other : others) {
            int p = x.iterate(itself, other, 1, true);
            c.due("fails 1 at " + p + " given 0", all(p));
        }
        c.about("promise 14: UNFOLD's KIND is ANY");
        c.due(5, x.look(x.iterate(x.basic(26), four, 1, true), 6));
        c.due(5, x.look(x.iterate(x.basic(17), so, 1, true), 6));
    }

    private static void unfoldRefused() {
        c.about("promise 14: UNFOLD, most 0 to 1000");
        x = new StageConveyor();
        int twice = x.basic(26);
        int one = x.whole(1);
        int[] out = {-1, 1001, Integer.MAX_VALUE, Integer.MIN_VALUE};
        for (int most : out) {
            c.due(-2, x.iterate(twice, one, most, true));
        }
        c.due(0, x.iterate(twice, one, 0, true));
        c.due(1, x.iterate(twice, one, 1000, true));
        c.about("promise 14: UNFOLD, -3, an answer with PAIR, the VALUE with what f asks for");
        int[] others = {0, 7, 11, 13};
        int[] of = {one, one, x.word(1), x.word(1)};
        for (int i = 0; i < others.length; i++) {
            c.due(-3, x.iterate(x.basic(others[i]), of[i], 1, true));
        }
        c.due(-3, x.iterate(x.basic(17), one, 1, true));
        // its own answer needn't FIT what f asks for
        int apart = x.bind(x.basic(45), one, true);
        c.due(2, x.iterate(apart, one, 1, true));
        int onlyWords = x.behind(x.basic(26), x.basic(11));
        c.due(3, x.iterate(onlyWords, x.word(1), 1, true));
        c.due("[1]", all(3));
    }

    private static void steps() {
        c.about("promise 15: n of them");
        x = new StageConveyor();
        c.due("[]", all(x.steps(1.0, 1.0, 0)));
        c.due(0, x.count(4));
        c.due("[1.0]", all(x.steps(1.0, 1.0, 1)));
        c.due("[1.0, 0.5, 0.0, -0.5]", all(x.steps(1.0, -0.5, 4)));
        c.due("[2.0, 2.0]", all(x.steps(2.0, 0.0, 2)));
        c.about("promise 15: start + k * by, each rounded once more");
        double[] due = new double[9];
        int p = x.steps(0.1, 0.7, 9);
        for (int k = 0; k < 9; k++) {
            due[k] = 0.1 + k * 0.7;
            c.due(1, x.run(p, 11, 0, k));
            c.due(due[k], x.measured(0));
        }
        int far = x.stage(x.steps(1e9, 1e9, 1000), 15, 0, 599);
        c.due("6.0E11", Kit.run(x, far, 5, 0, 0));
    }

    private static void stepsRefused() {
        c.about("promise 15: n 0 to 1000");
        x = new StageConveyor();
        int[] out = {-1, 1001, Integer.MAX_VALUE, Integer.MIN_VALUE};
        for (int n : out) {
            c.due(-2, x.steps(0.0, 0.0, n));
        }
        c.due(0, x.steps(0.0, 0.0, 0));
        c.due(1, x.steps(0.0, 0.0, 1000));
        c.due(1000, x.look(1, 4));
        c.about("promise 15: no number, or above 1000000000.0 without its sign");
        double most = 1000000000.0;
        double[] wrong = {Double.NaN, Double.POSITIVE_INFINITY, Double.NEGATIVE_INFINITY, Math.nextUp(most),
            -Math.nextUp(most), Double.MAX_VALUE, -Double.MAX_VALUE};
        for (double v : wrong) {
            c.due(-2, x.steps(v, 0.0, 1));
            c.due(-2, x.steps(0.0, v, 1));
            c.due(-2, x.steps(v, v, 0));
        }
        c.due(2, x.steps(most, -most, 1));
        c.due(3, x.steps(-most, most, 1));
        c.due(4, x.steps(Math.nextDown(most), Double.MIN_VALUE, 1));
        c.due(5, x.count(3));
    }

    private static void row() {
        c.about("promise 16: the elements of a LIST");
        x = new StageConveyor();
        c.due("[]", all(x.row(0)));
        c.due(0, x.count(4));
        int one = x.whole(1);
        c.due("[[]]", all(x.row(x.cons(0, 0))));
        int full = Kit.times(x, one, 40);
        int p = x.row(full);
        c.due("40", Kit.run(x, p, 0, 0, 0));
        c.due(40, x.count(4));
        c.due("40", Kit.run(x, p, 1, 0, 0));
        c.due(4, x.look(p, 0));
        c.due(5, x.look(p, 6));
    }

    private static void letters() {
        c.about("promise 16: those of a WORD, as WORDS of one");
        x = new StageConveyor();
        c.due("[]", all(x.row(x.word(0))));
        c.due(0, x.count(4));
        c.due("[\"z\"]", all(x.row(x.word(26))));
        int p = x.row(Kit.word(x, "abcdefghijkz"));
        c.due(5, x.look(p, 0));
        c.due(2, x.look(p, 6));
        c.due("[\"a\", \"b\", \"c\", \"d\", \"e\", \"f\", \"g\", \"h\", \"i\", \"j\", \"k\", \"z\"]", all(p));
        c.due(24, x.count(4));
    }

    private static void rowRefused() {
        c.about("promise 16: -2, no such VALUE, neither a LIST nor a WORD");
        x = new StageConveyor();
        int one = x.whole(1);
        int real = x.real(1.0);
        int pair = x.pair(one, one);
        int[] wrong = {-1, 4, 5, 60, Integer.MAX_VALUE, Integer.MIN_VALUE, one, real, pair};
        for (int n : wrong) {
            c.due(-2, x.row(n));
        }
        c.due(0, x.count(3));
        c.due(0, x.row(0));
    }

    private static void opened() {
        c.about("promise 17: any NOTE");
        x = new StageConveyor();
        int p = x.range(0, 2);
        int[] notes = {0, 1, -1, 1001, Integer.MAX_VALUE, Integer.MIN_VALUE};
        for (int note : notes) {
            int q = x.guard(p, 6, note);
            c.due(note, x.look(q, 4));
            c.due(note < 0 ? -108 : 4, x.run(q, 10, 0, 0));
            c.due(note, x.closed(0, false));
        }
        c.about("OPENED: as it is first asked");
        int q = x.guard(p, 6, 7);
        c.due("[]", all(x.stage(q, 16, 0, 0)));
        c.due(0, x.failure(3));
        c.due("[0]", all(x.stage(q, 16, 0, 1)));
        c.due(1, x.failure(3));
        // the second of a JOINED isn't asked as long as the first gives
        int joined = x.both(p, q, 8, 0);
        c.due("1", Kit.run(x, joined, 11, 0, 1));
        c.due(0, x.failure(3));
        c.due("0", Kit.run(x, joined, 11, 0, 2));
        c.due(1, x.failure(3));
        // nor the second of a ZIPPED whose first has nothing
        int zipped = x.both(x.range(0, 0), q, 9, x.basic(30));
        c.due("[]", all(zipped));
        c.due(0, x.failure(3));
        c.about("OPENED: once, however often it is asked");
        c.due("[0, 1]", all(q));
        c.due(1, x.failure(3));
        c.about("OPENED: it is opened ahead of the one below");
        int inner = x.guard(x.guard(p, 6, 1), 6, 2);
        c.due("[0, 1]", all(inner));
        c.due(1, x.closed(0, false));
        c.due(2, x.closed(1, false));
        c.about("OPENED: over one that FAILS at once, all the same");
        int failing = x.guard(p, 7, 0);
        c.due("fails 6 at " + failing + " given 0", all(x.guard(failing, 6, 3)));
        c.due(1, x.failure(3));
    }

    private static void failing() {
        c.about("FAILING: asked for the element behind k ones, without asking");
        x = new StageConveyor();
        int p = x.range(0, 3);
        for (int k = 0; k <= 5; k++) {
            int q = x.guard(p, 7, k);
            c.due(k <= 3 ? "fails 6 at " + q + " given " + k : "[0, 1, 2]", all(q));
            c.due(k <= 3 ? k : 3, x.given(p));
            c.due(k <= 3 ? k : 3, x.given(q));
        }
        c.about("FAILING: not asked behind k ones it doesn't FAIL");
        int two = x.guard(p, 7, 2);
        c.due("[0, 1]", all(x.stage(two, 16, 0, 2)));
        c.due("1", Kit.run(x, two, 11, 0, 1));
        c.due("fails 6 at " + two + " given 2", Kit.run(x, two, 11, 0, 2));
        c.about("promise 17: k 0 to 1000");
        int[] out = {-1, 1001, Integer.MAX_VALUE, Integer.MIN_VALUE};
        int known = x.count(3);
        for (int k : out) {
            c.due(-2, x.guard(p, 7, k));
        }
        c.due(known, x.guard(p, 7, 0));
        c.due(known + 1, x.guard(p, 7, 1000));
        c.due(1000, x.look(known + 1, 4));
    }

    private static void guardRefused() {
        c.about("promise 17: -1, no such PIPELINE; -2, another SORT");
        x = new StageConveyor();
        int p = x.range(0, 3);
        int[] none = {-1, 1, 2, 80, Integer.MAX_VALUE, Integer.MIN_VALUE};
        for (int n : none) {
            c.due(-1, x.guard(n, 6, 0));
            c.due(-1, x.guard(n, 7, 0));
        }
        int[] sorts = {-1, 0, 4, 5, 8, 9, 11, Integer.MAX_VALUE, Integer.MIN_VALUE};
        for (int sort : sorts) {
            c.due(-2, x.guard(p, sort, 0));
        }
        c.due(1, x.count(3));
        c.due(1, x.count(7));
    }

    private static void joined() {
        c.about("JOINED: the first one's, then the second one's");
        x = new StageConveyor();
        int none = x.range(0, 0);
        int some = x.range(0, 2);
        int more = x.range(5, 7);
        c.due("[]", all(x.both(none, none, 8, 0)));
        c.due("[0, 1]", all(x.both(none, some, 8, 0)));
        c.due("[0, 1]", all(x.both(some, none, 8, 0)));
        c.due("[5, 6, 0, 1]", all(x.both(more, some, 8, 0)));
        c.due("[0, 1, 0, 1]", all(x.both(some, some, 8, 0)));
        c.due(4, x.given(some));
        c.about("JOINED: the first isn't asked any further when it has ENDED");
        int failing = x.guard(some, 7, 2);
        int taken = x.stage(failing, 16, 0, 2);
        c.due("[0, 1, 5, 6]", all(x.both(taken, more, 8, 0)));
    }

    private static void zipped() {
        c.about("ZIPPED: asks the first, then, if that gave one, the second");
        x = new StageConveyor();
        int plus = x.basic(30);
        int none = x.range(0, 0);
        int two = x.range(0, 2);
        int three = x.range(10, 13);
        c.due("[]", all(x.both(none, three, 9, plus)));
        c.due(0, x.given(three));
        c.due("[]", all(x.both(three, none, 9, plus)));
        c.due(1, x.given(three));
        c.due("[10, 12]", all(x.both(two, three, 9, plus)));
        c.due(2, x.given(three));
        c.due("[10, 12]", all(x.both(three, two, 9, plus)));
        c.due(3, x.given(three));
        c.due(2, x.calls(plus));
        c.due("[0, 2]", all(x.both(two, two, 9, plus)));
        c.due(4, x.given(two));
        c.about("ZIPPED: ENDS if one has ENDED");
        int failing = x.guard(three, 7, 2);
        c.due("[10, 12]", all(x.both(two, failing, 9, plus)));
        int bad = x.both(failing, two, 9, plus);
        c.due("fails 6 at " + failing + " given 2", all(bad));
    }

    private static void zippedKinds() {
        c.about("KINDS must FIT: of 9 both, each with its one below");
        x = new StageConveyor();
        int longs = x.range(0, 1);
        int lists = x.stage(longs, 22, 0, 1);
        int reals = x.steps(0.0, 1.0, 1);
        int any = x.row(0);
        int element = x.basic(48);
        int f = x.basic(46);
        c.due(1, x.both(lists, longs, 9, element) > 0 ? 1 : 0);
        c.due(-3, x.both(longs, lists, 9, element));
        c.due(-3, x.both(longs, longs, 9, element));
        c.due(-3, x.both(lists, lists, 9, element));
        c.due(1, x.both(any, longs, 9, element) > 0 ? 1 : 0);
        c.due(1, x.both(lists, any, 9, element) > 0 ? 1 : 0);
        c.due(1, x.both(any, any, 9, element) > 0 ? 1 : 0);
        c.due(-3, x.both(any, reals, 9, element));
        c.due(-3, x.both(reals, any, 9, element));
        c.due(1, x.both(reals, lists, 9, f) > 0 ? 1 : 0);
        c.due(-3, x.both(lists, reals, 9, f));
    }

    private static void interleaved() {
        c.about("INTERLEAVED: in turn; ENDS as soon as the one in turn has");
        x = new StageConveyor();
        int none = x.range(0, 0);
        int one = x.range(0, 1);
        int two = x.range(10, 12);
        int three = x.range(20, 23);
        c.due("[]", all(x.both(none, three, 10, 0)));
        c.due(0, x.given(three));
        c.due("[20]", all(x.both(three, none, 10, 0)));
        c.due(1, x.given(three));
        c.due("[0, 20]", all(x.both(one, three, 10, 0)));
        c.due(1, x.given(three));
        c.due("[20, 0, 21]", all(x.both(three, one, 10, 0)));
        c.due("[10, 20, 11, 21]", all(x.both(two, three, 10, 0)));
        c.due("[20, 10, 21, 11, 22]", all(x.both(three, two, 10, 0)));
        c.due("[10, 10, 11, 11]", all(x.both(two, two, 10, 0)));
        c.about("INTERLEAVED: the one that isn't in turn isn't asked");
        int failing = x.guard(three, 7, 1);
        c.due("[0, 20]", all(x.both(one, failing, 10, 0)));
        int bad = x.both(two, failing, 10, 0);
        c.due("fails 6 at " + failing + " given 1", all(bad));
        c.due(3, x.given(bad));
    }

    private static void sharedKinds() {
        c.about("JOINED, INTERLEAVED: if both KINDS are the same that, else ANY");
        x = new StageConveyor();
        int longs = x.range(0, 1);
        int reals = x.steps(0.0, 1.0, 1);
        int lists = x.stage(longs, 22, 0, 1);
        int pairs = x.stage(longs, 24, 0, 0);
        int words = x.stage(x.row(0), 12, x.basic(12), 0);
        int any = x.row(0);
        int[] of = {longs, reals, words, pairs, lists, any};
        for (int i = 0; i < 6; i++) {
            for (int k = 0; k < 6; k++) {
                int j = x.both(of[i], of[k], 8, 0);
                c.due(i == k ? i : 5, x.look(j, 6));
                int t = x.both(of[i], of[k], 10, 0);
                c.due(i == k ? i : 5, x.look(t, 6));
                x.undo();
                x.undo();
            }
        }
    }

    private static void endedIsNotAsked() {
        c.about("SORTS 6 to 10: one that has ENDED isn't asked any further");
        x = new StageConveyor();
        int even = x.basic(5);
        int source = x.row(Kit.longs(x, 2, 4, 1, 6, 8));
        int ended = x.stage(source, 17, even, 0);
        int more = x.range(0, 9);
        int plus = x.basic(30);
        int[] of = {x.guard(ended, 6, 0), x.guard(ended, 7, 9), x.both(ended, more, 8, 0), x.both(ended, more, 9, plus),
            x.both(more, ended, 9, plus), x.both(ended, more, 10, 0), x.both(more, ended, 10, 0)};
        for (int p : of) {
            int over = x.stage(p, 23, 0, 4);
            c.due(0, x.run(over, 0, 0, 0));
            c.due(3, x.given(source));
            c.due(3, x.calls(even));
            c.due(2, x.given(ended));
        }
    }

    private static void bothRefused() {
        c.about("promise 18: -1, no such PIPELINE; -2, another SORT");
        x = new StageConveyor();
        int p = x.range(0, 3);
        int plus = x.basic(30);
        int negated = x.basic(0);
        int[] none = {-1, 1, 2, 80, Integer.MAX_VALUE, Integer.MIN_VALUE};
        for (int n : none) {
            for (int sort = 8; sort <= 10; sort++) {
                c.due(-1, x.both(n, p, sort, plus));
                c.due(-1, x.both(p, n, sort, plus));
                c.due(-1, x.both(n, n, sort, plus));
            }
        }
        int[] sorts = {-1, 0, 6, 7, 11, 12, Integer.MAX_VALUE, Integer.MIN_VALUE};
        for (int sort : sorts) {
            c.due(-2, x.both(p, p, sort, plus));
        }
        c.about("promise 18: -2, no such FUNCTION, or not of two, f of 9 alone");
        int[] wrong = {-1, 2, 3, 60, Integer.MAX_VALUE, Integer.MIN_VALUE, negated};
        for (int f : wrong) {
            c.due(-2, x.both(p, p, 9, f));
        }
        c.due(1, x.count(3));
        int made = 1;
        for (int f : wrong) {
            c.due(made++, x.both(p, p, 8, f));
            c.due(made++, x.both(p, p, 10, f));
            c.due(0, x.look(made - 1, 3));
        }
    }

    /** PIPELINES of each sort of source: one that doesn't RESTART is as good as another. */
    private static int[] sources() {
        int one = x.whole(1);
        int negated = x.basic(0);
        int twice = x.basic(26);
        return new int[] {x.range(0, 1), x.iterate(negated, one, 1, false), x.iterate(twice, one, 1, true),
            x.steps(0.0, 1.0, 1), x.row(0), x.row(x.word(1))};
    }

    private static void restarts() {
        c.about("PIPELINES: of sources RANGE, STEPS, ROW RESTART");
        x = new StageConveyor();
        int[] due = {1, 0, 0, 1, 1, 0};
        int[] sources = sources();
        for (int i = 0; i < 6; i++) {
            c.due(due[i], x.look(sources[i], 7));
            c.due(i, x.look(sources[i], 0));
        }
        c.about("PIPELINES: it RESTARTS if all below it do");
        for (int i = 0; i < 6; i++) {
            for (int k = 0; k < 6; k++) {
                x = new StageConveyor();
                int[] of = sources();
                if (i != k || due[i] == 1) {
                    int j = x.both(of[i], of[k], 8, 0);
                    c.due(due[i] & due[k], x.look(j, 7));
                    c.due(1 - due[i], x.look(of[i], 8));
                    c.due(1 - due[k], x.look(of[k], 8));
                    int g = x.guard(j, 6, 0);
                    c.due(due[i] & due[k], x.look(g, 7));
                    c.due(1 - (due[i] & due[k]), x.look(j, 8));
                    c.due(due[i] & due[k], x.look(x.stage(g, 30, 0, 0), 7));
                }
            }
        }
        c.about("PIPELINES: one that doesn't RESTART is SPENT once it has been run");
        x = new StageConveyor();
        sources = sources();
        for (int i = 0; i < 6; i++) {
            c.due(0, x.look(sources[i], 8));
            c.due(0, x.foretell(sources[i], 0, 0, 0));
            c.due(0, x.look(sources[i], 8));
            c.due(0, x.run(sources[i], 0, 0, 0));
            c.due(1 - due[i], x.look(sources[i], 8));
            c.due(due[i] == 1 ? 0 : -5, x.run(sources[i], 0, 0, 0));
        }
    }

    private static void spentTogether() {
        c.about("promise 18: -5, p and q the same and not RESTARTING");
        x = new StageConveyor();
        int words = x.row(Kit.word(x, "ab"));
        int join = x.basic(42);
        int range = x.range(0, 1);
        for (int sort = 8; sort <= 10; sort++) {
            c.due(-5, x.both(words, words, sort, join));
            c.due(0, x.look(words, 8));
        }
        c.due(2, x.both(range, range, 8, 0));
        c.about("promise 18: -5, of both");
        int more = x.row(Kit.word(x, "cd"));
        c.due(0, x.run(more, 0, 0, 0));
        for (int sort = 8; sort <= 10; sort++) {
            c.due(-5, x.both(words, more, sort, join));
            c.due(-5, x.both(more, words, sort, join));
        }
        c.due(0, x.look(words, 8));
        c.due(4, x.count(3));
        c.about("promise 18: a SPENT one isn't made of, one that RESTARTS may");
        int made = x.both(words, range, 8, 0);
        c.due(4, made);
        c.due(1, x.look(words, 8));
        c.due(0, x.look(range, 8));
        c.due(-5, x.both(words, range, 8, 0));
        c.due(5, x.both(range, made, 10, 0));
        c.due(1, x.look(made, 8));
    }

    /** Each way to make a PIPELINE makes the 80th, and no 81st. */
    private static void eightieth() {
        c.about("promises 13 to 19: -4, 80 PIPELINES are there");
        Check.Answer[] makers = {o -> o.range(0, 1), o -> o.iterate(0, 1, 1, false), o -> o.iterate(1, 1, 1, true),
            o -> o.steps(0.0, 1.0, 1), o -> o.row(0), o -> o.row(2), o -> o.guard(0, 6, 1), o -> o.guard(0, 7, 2),
            o -> o.both(0, 0, 8, 0), o -> o.both(0, 0, 9, 2), o -> o.both(0, 0, 10, 0), o -> o.stage(0, 30, 0, 0),
            o -> o.stage(0, 12, 0, 0)};
        for (Check.Answer maker : makers) {
            StageConveyor o = new StageConveyor();
            o.whole(1);
            o.word(1);
            o.basic(0);
            o.basic(26);
            o.basic(30);
            for (int i = 0; i < 79; i++) {
                c.due(i, o.range(0, 1));
            }
            c.due(79, maker.of(o));
            c.due(-4, maker.of(o));
            c.due(80, o.count(3));
            c.due(85, o.count(7));
            c.due(0, o.run(79, 0, 0, 0));
            c.due(3, o.undo());
            c.due(79, maker.of(o));
        }
    }

    private static void sizeOfForty() {
        c.about("promises 17 to 19: -4, a PIPELINE's SIZE above 40");
        x = new StageConveyor();
        int so = x.range(0, 1);
        for (int size = 2; size <= 39; size++) {
            so = x.stage(so, 30, 0, 0);
        }
        c.due(39, x.look(so, 5));
        int full = x.guard(so, 6, 0);
        c.due(40, x.look(full, 5));
        c.due(40, x.look(x.guard(so, 7, 0), 5));
        c.due(40, x.look(x.stage(so, 21, 0, 0), 5));
        int known = x.count(3);
        c.due(-4, x.guard(full, 6, 0));
        c.due(-4, x.guard(full, 7, 0));
        c.due(-4, x.stage(full, 21, 0, 0));
        c.due(-4, x.both(so, 0, 8, 0));
        c.due(-4, x.both(0, so, 10, 0));
        c.due(known, x.count(3));
        c.about("promise 18: -4, SIZES as often as they stand there");
        int nineteen = 18;
        int twenty = 19;
        c.due(19, x.look(nineteen, 5));
        c.due(39, x.look(x.both(nineteen, nineteen, 8, 0), 5));
        c.due(40, x.look(x.both(nineteen, twenty, 8, 0), 5));
        c.due(40, x.look(x.both(twenty, nineteen, 10, 0), 5));
        c.due(-4, x.both(twenty, twenty, 8, 0));
        int plus = x.basic(30);
        c.due(40, x.look(x.both(twenty, nineteen, 9, plus), 5));
        c.due(-4, x.both(twenty, twenty, 9, plus));
        c.due("1", Kit.run(x, full, 0, 0, 0));
        c.due("2", Kit.run(x, known + 1, 0, 0, 0));
    }
}
