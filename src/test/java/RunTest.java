/** Promise 20: a RUN, its ENDS, its STEPS and what refuses it. */
public final class RunTest {
    private static final Check c = new Check("RunTest");
    private static StageConveyor x;

    public static void main(String[] args) {
        counting();
        sums();
        extremes();
        firstAndLast();
        holding();
        folding();
        listing();
        calling();
        grouping();
        parting();
        joining();
        summary();
        greatest();
        fortyFirst();
        takesSteps();
        refused();
        spent();
        many();
        allTaken();
        c.finish();
    }

    private static int longs(long... v) {
        return x.row(Kit.longs(x, v));
    }

    private static void counting() {
        c.about("promise 20, END 0");
        x = new StageConveyor();
        int p = x.range(0, 7);
        c.due(0, x.run(p, 0, -9, -9));
        c.due(7, x.told(0));
        c.due(7, x.count(4));
        c.due("0", Kit.run(x, x.range(0, 0), 0, 0, 0));
        c.due(0, x.count(4));
    }

    private static void sums() {
        c.about("promise 20, ENDS 1 and 2");
        x = new StageConveyor();
        c.due("15", Kit.run(x, x.range(0, 6), 1, 0, 0));
        c.due("0", Kit.run(x, x.range(0, 0), 1, 0, 0));
        c.due("-9223372036854775808", Kit.run(x, longs(Long.MAX_VALUE, 1), 1, 0, 0));
        int mixed = Kit.row(x, x.whole(1), x.real(0.5), x.whole(2));
        c.due("fails 1 at -1 given 0", Kit.run(x, mixed, 1, 0, 0));
        c.due(2, x.given(mixed));
        c.due("fails 1 at -1 given 0", Kit.run(x, mixed, 2, 0, 0));
        c.due(1, x.given(mixed));
        c.due("0.6000000000000001", Kit.run(x, x.steps(0.1, 0.1, 3), 2, 0, 0));
        c.due("0.0", Kit.run(x, x.steps(0.1, 0.1, 0), 2, 0, 0));
        int huge = x.real(Double.MAX_VALUE);
        int tiny = x.real(-Double.MAX_VALUE);
        int p = Kit.row(x, huge, huge, tiny);
        c.due("fails 5 at -1 given 0", Kit.run(x, p, 2, 0, 0));
        c.due(2, x.given(p));
        c.due("1.7976931348623157E308", Kit.run(x, Kit.row(x, huge, tiny, huge), 2, 0, 0));
    }

    private static void extremes() {
        c.about("promise 20, ENDS 3 and 4");
        x = new StageConveyor();
        int p = longs(3, -1, 5, -5, 1);
        c.due("-5", Kit.run(x, p, 3, -1, 0));
        c.due("5", Kit.run(x, p, 4, -1, 0));
        c.due("1", Kit.run(x, x.range(1, 4), 3, -1, 0));
        c.due("3", Kit.run(x, x.stage(x.range(1, 4), 21, 0, 0), 4, -1, 0));
        c.due("7", Kit.run(x, x.range(7, 8), 3, -1, 0));
        c.due("7", Kit.run(x, x.range(7, 8), 4, -1, 0));
        int size = x.basic(1);
        int up = x.key(size, false);
        int down = x.key(size, true);
        // of those that are alike the first
        c.due("-1", Kit.run(x, p, 3, up, 0));
        int real = x.key(x.behind(x.basic(7), size), false);
        c.due("-1", Kit.run(x, p, 3, real, 0));
        c.due("5", Kit.run(x, p, 4, real, 0));
        c.due(5, x.calls(size));
        c.due("5", Kit.run(x, p, 4, up, 0));
        c.due("5", Kit.run(x, p, 3, down, 0));
        c.due("-1", Kit.run(x, p, 4, down, 0));
        int none = x.range(0, 0);
        c.due("fails 10 at -1 given 0", Kit.run(x, none, 3, -1, 0));
        c.due("fails 10 at -1 given 0", Kit.run(x, none, 4, up, 0));
        c.due("none", Kit.result(x));
        int words = Kit.row(x, x.whole(1), x.word(1));
        c.due("fails 1 at -1 given 0", Kit.run(x, words, 3, up, 0));
    }

    private static void firstAndLast() {
        c.about("promise 20, ENDS 5, 11 and 19");
        x = new StageConveyor();
        int p = x.range(5, 9);
        c.due("5", Kit.run(x, p, 5, 0, 0));
        c.due(1, x.given(p));
        c.due(1, x.count(4));
        c.due("8", Kit.run(x, p, 19, 0, 0));
        c.due(4, x.given(p));
        c.due("7", Kit.run(x, p, 11, 0, 2));
        c.due(3, x.given(p));
        c.due("5", Kit.run(x, p, 11, 0, 0));
        c.due(1, x.given(p));
        c.due("8", Kit.run(x, p, 11, 0, 3));
        c.due("fails 10 at -1 given 0", Kit.run(x, p, 11, 0, 4));
        c.due("fails 10 at -1 given 0", Kit.run(x, p, 11, 0, 1000));
        int none = x.range(0, 0);
        c.due("fails 10 at -1 given 0", Kit.run(x, none, 5, 0, 0));
        c.due("fails 10 at -1 given 0", Kit.run(x, none, 19, 0, 0));
        c.due("fails 10 at -1 given 0", Kit.run(x, none, 11, 0, 0));
        c.due(-2, x.run(p, 11, 0, -1));
        c.due(-2, x.run(p, 11, 0, 1001));
    }

    private static void holding() {
        c.about("promise 20, ENDS 6 to 8");
        x = new StageConveyor();
        int even = x.basic(5);
        int some = longs(1, 3, 4, 5);
        int all = longs(2, 4);
        int none = longs(1, 3);
        int empty = x.range(0, 0);
        String[] any = {"1", "1", "0", "0"};
        String[] every = {"0", "1", "0", "1"};
        String[] no = {"0", "0", "1", "1"};
        int[] of = {some, all, none, empty};
        for (int i = 0; i < 4; i++) {
            c.due(any[i], Kit.run(x, of[i], 6, even, 0));
            c.due(every[i], Kit.run(x, of[i], 7, even, 0));
            c.due(no[i], Kit.run(x, of[i], 8, even, 0));
        }
        Kit.run(x, some, 6, even, 0);
        c.due(3, x.given(some));
        Kit.run(x, some, 7, even, 0);
        c.due(1, x.given(some));
        Kit.run(x, some, 8, even, 0);
        c.due(3, x.given(some));
        int itself = x.bind(x.basic(49), x.word(1), false);
        for (int end = 6; end <= 8; end++) {
            c.due("fails 1 at -1 given 0", Kit.run(x, some, end, itself, 0));
        }
    }

    private static void folding() {
        c.about("promise 20, END 9");
        x = new StageConveyor();
        int minus = x.basic(31);
        int ten = x.whole(10);
        int p = x.range(1, 4);
        c.due("4", Kit.run(x, p, 9, minus, ten));
        c.due(3, x.calls(minus));
        c.due(31 * 10 + 1, x.argument(0, false));
        c.due(32, x.argument(0, true));
        c.due("10", Kit.run(x, x.range(0, 0), 9, minus, ten));
        c.due(-2, x.run(p, 9, minus, -1));
        c.due(-2, x.run(p, 9, minus, x.count(0)));
        c.due(-2, x.run(p, 9, x.basic(0), ten));
        c.due(-3, x.run(p, 9, minus, 0));
        c.due(-3, x.run(x.steps(0.0, 1.0, 1), 9, minus, ten));
        // its answer is no first argument
        c.due(-3, x.run(x.steps(0.0, 1.0, 1), 9, x.basic(41), x.real(0.0)));
        int divided = x.basic(33);
        c.due("fails 2 at -1 given 0", Kit.run(x, x.range(0, 2), 9, divided, ten));
    }

    private static void listing() {
        c.about("promise 20, ENDS 10 and 13");
        x = new StageConveyor();
        int p = longs(3, 1, 3, 2, 1);
        c.due("[3, 1, 3, 2, 1]", Kit.run(x, p, 10, 0, 0));
        c.due(10, x.count(4));
        c.due("[3, 1, 2]", Kit.run(x, p, 13, 0, 0));
        c.due(8, x.count(4));
        int none = x.range(0, 0);
        c.due("[]", Kit.run(x, none, 10, 0, 0));
        c.due("[]", Kit.run(x, none, 13, 0, 0));
        int pair = x.pair(0, 0);
        int triple = Kit.list(x, pair, pair, pair, pair, pair, pair, pair, pair, pair, pair, pair);
        int heavy = Kit.row(x, triple, triple);
        c.due(4, x.run(heavy, 10, 0, 0));
        int heavier = Kit.row(x, triple, triple);
        int joined = x.both(heavy, heavier, 8, 0);
        c.due("fails 4 at -1 given 0", Kit.run(x, joined, 10, 0, 0));
        c.due(8, x.count(4));
    }

    private static void calling() {
        c.about("promise 20, END 12");
        x = new StageConveyor();
        int f = x.basic(24);
        int p = x.range(0, 3);
        c.due("3", Kit.run(x, p, 12, f, 0));
        c.due(3, x.calls(f));
        c.due(6, x.count(4));
        c.due("0", Kit.run(x, x.range(0, 0), 12, f, 0));
        c.due("fails 7 at -1 given 0", Kit.run(x, p, 12, x.basic(27), 0));
    }

    private static void grouping() {
        c.about("promise 20, END 14");
        x = new StageConveyor();
        int even = x.basic(5);
        int p = longs(2, 3, 4, 5, 6);
        c.due("[(1, [2, 4, 6]), (0, [3, 5])]", Kit.run(x, p, 14, even, 0));
        c.due(5 + 5 + 5 + 2, x.count(4));
        c.due(5, x.calls(even));
        c.due("[]", Kit.run(x, x.range(0, 0), 14, even, 0));
        int f = x.bind(x.basic(49), x.word(1), false);
        c.due("[(\"a\", [2, 3, 4, 5, 6])]", Kit.run(x, p, 14, f, 0));
        // one RUN leaves nothing to the next
        x = new StageConveyor();
        even = x.basic(5);
        int rest = x.bind(x.basic(34), x.whole(3), true);
        int thirty = x.range(0, 60);
        for (int i = 0; i < 4; i++) {
            c.due(4, x.run(thirty, 14, rest, 0));
            c.due(3, x.size(0));
            c.due(20, x.size(x.part(1, 1)));
        }
        for (int i = 0; i < 4; i++) {
            c.due(3, x.run(thirty, 15, even, 0));
        }
        // 25 PAIRS with their LISTS are too heavy together
        int itself = x.basic(1);
        int q = x.range(0, 24);
        c.due(4, x.run(q, 14, itself, 0));
        int r = x.range(0, 25);
        c.due("fails 4 at -1 given 0", Kit.run(x, r, 14, itself, 0));
        c.due(25 + 25 + 25 + 25, x.count(4));
    }

    private static void parting() {
        c.about("promise 20, END 15");
        x = new StageConveyor();
        int even = x.basic(5);
        int p = longs(2, 3, 4, 5, 6);
        c.due("([2, 4, 6], [3, 5])", Kit.run(x, p, 15, even, 0));
        c.due(5 + 5 + 5, x.count(4));
        c.due("([], [])", Kit.run(x, x.range(0, 0), 15, even, 0));
        c.due("([0], [])", Kit.run(x, x.range(0, 1), 15, even, 0));
        int f = x.bind(x.basic(49), x.word(1), false);
        c.due("fails 1 at -1 given 0", Kit.run(x, p, 15, f, 0));
    }

    private static void joining() {
        c.about("promise 20, END 16");
        x = new StageConveyor();
        int ab = Kit.word(x, "ab");
        int empty = x.word(0);
        int ten = Kit.word(x, "cdefghijkl");
        c.due("\"abcdefghijkl\"", Kit.run(x, Kit.row(x, ab, empty, ten), 16, 0, 0));
        c.due("fails 4 at -1 given 0", Kit.run(x, Kit.row(x, ab, ten, empty, ab, ab), 16, 0, 0));
        c.due(4, x.given(1));
        c.due("\"\"", Kit.run(x, x.row(empty), 16, 0, 0));
        c.due("fails 1 at -1 given 0", Kit.run(x, Kit.row(x, ab, x.whole(1)), 16, 0, 0));
    }

    private static void summary() {
        c.about("promise 20, END 17");
        x = new StageConveyor();
        c.due("[4, 2, -5, 4]", Kit.run(x, longs(3, -5, 4, 0), 17, 0, 0));
        c.due(8, x.count(4));
        c.due("[1, -3, -3, -3]", Kit.run(x, longs(-3), 17, 0, 0));
        c.due("[1, 3, 3, 3]", Kit.run(x, longs(3), 17, 0, 0));
        c.due("[0, 0]", Kit.run(x, x.range(0, 0), 17, 0, 0));
        c.due(2, x.count(4));
        c.due("fails 1 at -1 given 0", Kit.run(x, Kit.row(x, x.whole(1), x.real(1.0)), 17, 0, 0));
    }

    private static void greatest() {
        c.about("promise 20, END 18");
        x = new StageConveyor();
        int p = longs(3, -5, 4, 5, 0, -4);
        c.due("[5, 4, 3]", Kit.run(x, p, 18, -1, 3));
        c.due(6 + 3, x.count(4));
        int up = x.key(x.basic(1), false);
        int down = x.key(x.basic(1), true);
        c.due("[-5, 5, 4, -4, 3, 0]", Kit.run(x, p, 18, up, 10));
        c.due(6 + 6 + 6, x.count(4));
        c.due("[0, 3, 4, -4]", Kit.run(x, p, 18, down, 4));
        c.due("[-5]", Kit.run(x, p, 18, up, 1));
        c.due("[]", Kit.run(x, x.range(0, 0), 18, -1, 3));
        c.due(-2, x.run(p, 18, -1, 0));
        c.due(-2, x.run(p, 18, -1, 11));
        c.due(-2, x.run(p, 18, 2, 1));
        c.due(-2, x.run(p, 18, -2, 1));
    }

    private static void fortyFirst() {
        c.about("promise 20, a 41st isn't put into a LIST");
        x = new StageConveyor();
        int forty = x.range(0, 40);
        int more = x.range(0, 50);
        int always = x.bind(x.basic(49), x.whole(1), false);
        int never = x.bind(x.basic(49), x.whole(0), false);
        int itself = x.basic(1);
        c.due(4, x.run(forty, 10, 0, 0));
        c.due("fails 4 at -1 given 0", Kit.run(x, more, 10, 0, 0));
        c.due(41, x.given(more));
        c.due(41, x.count(4));
        c.due(4, x.run(forty, 13, 0, 0));
        c.due("fails 4 at -1 given 0", Kit.run(x, more, 13, 0, 0));
        c.due(41, x.given(more));
        int same = x.stage(more, 12, always, 0);
        c.due("[1]", Kit.run(x, same, 13, 0, 0));
        c.due(4, x.run(forty, 14, always, 0));
        c.due("fails 4 at -1 given 0", Kit.run(x, more, 14, always, 0));
        c.due(41, x.given(more));
        c.due("fails 4 at -1 given 0", Kit.run(x, more, 14, itself, 0));
        c.due(41, x.given(more));
        c.due(3, x.run(forty, 15, always, 0));
        c.due("fails 4 at -1 given 0", Kit.run(x, more, 15, always, 0));
        c.due(41, x.given(more));
        c.due("fails 4 at -1 given 0", Kit.run(x, more, 15, never, 0));
        c.due(41, x.given(more));
        // 40 and 40 are right, each in its LIST
        int even = x.basic(5);
        int eighty = x.range(0, 80);
        c.due(3, x.run(eighty, 15, even, 0));
        c.due(80, x.given(eighty));
    }

    private static void takesSteps() {
        c.about("promise 20, STEPS");
        x = new StageConveyor();
        int p = x.range(0, 600);
        c.due("600", Kit.run(x, p, 0, 0, 0));
        c.due(600, x.count(4));
        int q = x.range(0, 601);
        c.due("fails 9 at " + q + " given 600", Kit.run(x, q, 0, 0, 0));
        c.due(600, x.count(4));
        int f = x.basic(0);
        // 300 elements and 300 CALLS; then the source has none left
        c.due("fails 9 at " + q + " given 300", Kit.run(x, q, 12, f, 0));
        c.due(300, x.calls(f));
        // a CALL that there is no STEP for isn't counted
        int plus = x.basic(30);
        int bound = x.bind(plus, x.whole(1), true);
        int twice = x.behind(f, f);
        int six = x.behind(twice, bound);
        c.due("fails 9 at -1 given 0", Kit.run(x, q, 12, six, 0));
        c.due(86, x.calls(six));
        c.due(86, x.calls(plus));
        c.due(86, x.calls(twice));
        c.due(170, x.calls(f));
        c.due(600, x.count(4));
        c.due(600 - 86, x.count(5));
        // a LIST that there are too few STEPS for isn't made, and all are taken
        int last = x.stage(x.range(0, 580), 15, 0, 550);
        c.due("fails 9 at -1 given 0", Kit.run(x, last, 10, 0, 0));
        c.due(600, x.count(4));
        int chunk = x.stage(x.stage(x.range(0, 598), 15, 0, 585), 23, 0, 8);
        c.due("fails 9 at " + chunk + " given 0", Kit.run(x, chunk, 0, 0, 0));
        c.due(593, x.given(chunk - 2));
        c.due(600, x.count(4));
        int exact = x.stage(x.range(0, 570), 15, 0, 540);
        c.due(4, x.run(exact, 10, 0, 0));
        c.due(600, x.count(4));
    }

    private static void refused() {
        c.about("promise 20, refusals");
        x = new StageConveyor();
        int one = x.basic(0);
        int two = x.basic(30);
        int real = x.basic(7);
        int wordy = x.basic(11);
        int up = x.key(one, false);
        int p = x.range(0, 3);
        int words = x.row(Kit.word(x, "ab"));
        int steps = x.steps(0.0, 1.0, 2);
        c.due(-1, x.run(-1, 0, 0, 0));
        c.due(-1, x.run(3, 0, 0, 0));
        c.due(-1, x.run(3, 99, 0, 0));
        c.due(-2, x.run(p, -1, 0, 0));
        c.due(-2, x.run(p, 20, 0, 0));
        int[] ofOne = {6, 7, 8, 12, 14, 15};
        for (int end : ofOne) {
            c.due(-2, x.run(p, end, -1, 0));
            c.due(-2, x.run(p, end, x.count(1), 0));
            c.due(-2, x.run(p, end, two, 0));
            c.due(-3, x.run(p, end, wordy, 0));
        }
        int[] byOrder = {3, 4, 18};
        for (int end : byOrder) {
            c.due(-2, x.run(p, end, -2, 1));
            c.due(-2, x.run(p, end, x.count(2), 1));
            c.due(-3, x.run(words, end, up, 1));
        }
        int[] asking = {6, 7, 8, 15};
        for (int end : asking) {
            c.due(-3, x.run(p, end, real, 0));
        }
        c.due(0, x.run(p, 12, real, 0));
        c.due(4, x.run(p, 14, real, 0));
        c.due(-3, x.run(steps, 1, 0, 0));
        c.due(-3, x.run(words, 1, 0, 0));
        c.due(-3, x.run(p, 2, 0, 0));
        c.due(-3, x.run(p, 16, 0, 0));
        c.due(-3, x.run(steps, 17, 0, 0));
        // nothing changed: the latest RUN is that to END 14
        c.due("[(0.0, [0]), (1.0, [1]), (2.0, [2])]", Kit.result(x));
        c.due(0, x.look(words, 8));
        // f and a are looked at where they are used alone
        int[] without = {0, 1, 5, 10, 13, 17, 19};
        for (int end : without) {
            c.due(1, x.run(p, end, Integer.MIN_VALUE, Integer.MAX_VALUE) >= 0 ? 1 : 0);
        }
    }

    private static void spent() {
        c.about("promise 20, SPENT");
        x = new StageConveyor();
        int words = x.row(Kit.word(x, "ab"));
        c.due(-3, x.run(words, 1, 0, 0));
        c.due(0, x.look(words, 8));
        c.due(0, x.run(words, 0, 0, 0));
        c.due(1, x.look(words, 8));
        c.due(-5, x.run(words, 0, 0, 0));
        c.due(-3, x.run(words, 1, 0, 0));
        c.due(-2, x.run(words, 11, 0, -1));
        // one that fails is SPENT, too
        int failing = x.guard(x.row(Kit.word(x, "ab")), 7, 0);
        c.due(-106, x.run(failing, 0, 0, 0));
        c.due(-5, x.run(failing, 0, 0, 0));
        int p = x.range(0, 2);
        c.due(0, x.run(p, 0, 0, 0));
        c.due(0, x.run(p, 0, 0, 0));
        c.due(0, x.look(p, 8));
    }

    /** FLAT and BESIDE give much more than there are STEPS. */
    private static void many() {
        c.about("promise 20, many elements");
        x = new StageConveyor();
        int one = x.whole(1);
        int list = 0;
        for (int i = 0; i < 40; i++) {
            list = x.cons(one, list);
        }
        int always = x.bind(x.basic(50), list, true);
        int flat = x.stage(x.range(0, 199), 13, always, 0);
        c.due("7960", Kit.run(x, flat, 0, 0, 0));
        c.due(199 * 3, x.count(4));
        int so = flat;
        for (int i = 0; i < 4; i++) {
            so = x.stage(so, 24, 0, 0);
        }
        int sorted = x.stage(x.stage(x.stage(so, 30, 0, 0), 20, -1, 0), 21, 0, 0);
        c.due("7956", Kit.run(x, sorted, 0, 0, 0));
        c.due("7956", Kit.run(x, sorted, 0, 0, 0));
        c.due("1", Kit.run(x, x.stage(sorted, 19, 0, 0), 0, 0, 0));
        c.due("7960", Kit.run(x, flat, 1, 0, 0));
        c.due(3, x.run(so, 19, 0, 0));
        c.due("((((1, 1), (1, 1)), ((1, 1), (1, 1))), (((1, 1), (1, 1)), ((1, 1), (1, 1))))", Kit.result(x));
        int numbers = x.stage(flat, 12, x.basic(0), 0);
        c.due("fails 9 at " + numbers + " given 558", Kit.run(x, numbers, 0, 0, 0));
    }

    private static void allTaken() {
        c.about("promise 20, all RUNS have taken 16000 STEPS");
        x = new StageConveyor();
        int p = x.range(0, 600);
        int words = x.row(Kit.word(x, "ab"));
        x.run(words, 0, 0, 0);
        for (int i = 0; i < 26; i++) {
            c.due(0, x.run(p, 0, 0, 0));
        }
        c.due(26 * 600 + 2, x.count(6));
        c.due(0, x.run(x.range(0, 397), 0, 0, 0));
        c.due(15999, x.count(6));
        c.due(0, x.run(p, 0, 0, 0));
        c.due(16599, x.count(6));
        int none = x.range(0, 0);
        c.due(-6, x.run(none, 0, 0, 0));
        c.due(-6, x.foretell(none, 0, 0, 0));
        c.due(-6, x.equal(none, p, 0, 0, 0));
        c.due(-5, x.run(words, 0, 0, 0));
        c.due(-3, x.run(p, 2, 0, 0));
        c.due("600", Kit.result(x));
        // exactly 16000
        StageConveyor y = new StageConveyor();
        int q = y.range(0, 400);
        for (int i = 0; i < 40; i++) {
            c.due(0, y.run(q, 0, 0, 0));
        }
        c.due(-6, y.run(q, 0, 0, 0));
        c.due(16000, y.count(6));
    }
}
