/** The edges of what a RUN tells, promises 21 to 33. */
public final class EdgeTellTest {
    private static final Check c = new Check("EdgeTellTest");
    private static final int[] NEVER = {-1, -2, 100, 101, 600, Integer.MAX_VALUE, Integer.MIN_VALUE};
    private static StageConveyor x;

    public static void main(String[] args) {
        withoutRun();
        foretoldTellsNothing();
        foretoldChangesNothing();
        foretoldAsRun();
        equalOrNot();
        equalFailures();
        equalChangesNothing();
        partsOfEachKind();
        partsOfLargest();
        numbersOfParts();
        toldEdges();
        measuredEdges();
        shorterThanBefore();
        withoutResult();
        refusedTellsNothing();
        callsOfFunctions();
        callsKept();
        argumentsOfCalls();
        givenByPipelines();
        cameSince();
        lastNumbers();
        failureNumbers();
        failureAt();
        givenAtItsPlace();
        closedInOrder();
        closedOrSuppressed();
        noteOfNought();
        closedWhenRescued();
        c.finish();
    }

    private static String failure() {
        StringBuilder so = new StringBuilder();
        for (int what = 0; what < 5; what++) {
            so.append(what == 0 ? "" : " ").append(x.failure(what));
        }
        return so.toString();
    }

    /** Nothing is told of parts. */
    private static void dueNoParts() {
        int[] numbers = {0, 1, 99, -1, 100, Integer.MAX_VALUE, Integer.MIN_VALUE};
        for (int n : numbers) {
            c.due(-1, x.kind(n));
            c.due(-1, x.size(n));
            c.due(-1, x.part(n, 0));
            c.dueThrow(() -> x.told(n));
            c.dueThrow(() -> x.measured(n));
        }
    }

    private static void dueNoCalls() {
        int[] numbers = {0, 1, 99, -1, 100, Integer.MAX_VALUE, Integer.MIN_VALUE};
        for (int k : numbers) {
            c.due(-1, x.call(k));
            c.dueThrow(() -> x.argument(k, false));
            c.dueThrow(() -> x.argument(k, true));
        }
    }

    private static void dueNoneClosed() {
        int[] numbers = {0, 1, -1, 39, 40, Integer.MAX_VALUE, Integer.MIN_VALUE};
        for (int k : numbers) {
            c.dueThrow(() -> x.closed(k, false));
            c.dueThrow(() -> x.closed(k, true));
        }
    }

    private static void withoutRun() {
        c.about("promises 23 to 33: without a RUN");
        x = new StageConveyor();
        dueNoParts();
        dueNoCalls();
        dueNoneClosed();
        c.due("0 -1 0 0 0", failure());
        int f = x.basic(0);
        int p = x.range(0, 3);
        c.due(0, x.calls(f));
        c.due(0, x.given(p));
        c.due(0, x.count(4));
        c.due(0, x.count(5));
        c.due(0, x.count(6));
    }

    private static void foretoldTellsNothing() {
        c.about("promises 21, 23: of foretold ones nothing is told");
        x = new StageConveyor();
        int f = x.basic(0);
        int opened = x.guard(x.range(0, 3), 6, -4);
        int p = x.stage(opened, 12, f, 0);
        c.due(-108, x.foretell(p, 10, 0, 0));
        c.due(9, x.count(6));
        c.due(0, x.equal(p, 0, 10, 0, 0));
        dueNoParts();
        dueNoCalls();
        dueNoneClosed();
        c.due("0 -1 0 0 0", failure());
        c.due(0, x.calls(f));
        c.due(0, x.given(p));
        c.due(0, x.given(opened));
        c.due(0, x.count(4));
        c.due(0, x.count(5));
    }

    /** An object with a RUN behind it that has told something of everything. */
    private static StageConveyor busy() {
        StageConveyor o = new StageConveyor();
        int one = o.whole(1);
        int f = o.basic(0);
        int letters = o.row(Kit.word(o, "ab"));
        int range = o.range(0, 3);
        int bad = o.guard(o.guard(o.guard(range, 6, -5), 6, -6), 7, 2);
        o.key(f, true);
        int mapped = o.stage(bad, 12, f, 0);
        o.rewrite(o.stage(o.stage(range, 15, 0, 1), 15, 0, 1));
        o.stage(letters, 27, 0, one);
        o.run(mapped, 12, f, 0);
        return o;
    }

    private static void foretoldChangesNothing() {
        c.about("promise 21: nothing changes, but that its STEPS are taken from all");
        String due = Kit.besidesSteps(busy());
        Check.Answer[] calls = {o -> o.foretell(1, 10, 0, 0), o -> o.foretell(1, 12, 0, 0), o -> o.foretell(4, 10, 0, 0),
            o -> o.foretell(5, 19, 0, 0), o -> o.foretell(o.count(3) - 1, 10, 0, 0),
            o -> o.equal(1, 4, 12, 0, 0), o -> o.equal(5, 5, 10, 0, 0)};
        for (Check.Answer call : calls) {
            x = busy();
            int before = x.count(6);
            c.due(1, call.of(x) > -200 ? 1 : 0);
            c.due(1, x.count(6) > before ? 1 : 0);
            c.due(due, Kit.besidesSteps(x));
        }
        c.about("promise 21: one that doesn't RESTART isn't SPENT by it");
        x = new StageConveyor();
        int words = x.row(Kit.word(x, "ab"));
        for (int i = 0; i < 3; i++) {
            c.due(4, x.foretell(words, 10, 0, 0));
            c.due(0, x.look(words, 8));
        }
        c.due(4, x.run(words, 10, 0, 0));
        c.due(-5, x.foretell(words, 10, 0, 0));
    }

    private static void foretoldAsRun() {
        c.about("promise 21: what run() would answer");
        x = new StageConveyor();
        int one = x.whole(1);
        int flaky = x.basic(27);
        int p = x.range(0, 3);
        int row = Kit.row(x, one, x.real(0.5), x.word(1), x.pair(one, one), 0);
        for (int a = 0; a < 5; a++) {
            c.due(a, x.foretell(row, 11, 0, a));
            c.due(a, x.run(row, 11, 0, a));
        }
        c.due(-110, x.foretell(row, 11, 0, 5));
        int tried = x.stage(p, 28, flaky, 2);
        int failing = x.stage(p, 28, flaky, 1);
        for (int i = 0; i < 2; i++) {
            c.due(4, x.foretell(tried, 10, 0, 0));
            c.due(4, x.run(tried, 10, 0, 0));
            c.due(-107, x.foretell(failing, 10, 0, 0));
            c.due(-107, x.run(failing, 10, 0, 0));
        }
        c.due(-109, x.foretell(x.range(0, 601), 0, 0, 0));
        c.due(-108, x.foretell(x.guard(p, 6, -1), 0, 0, 0));
        c.due(-106, x.foretell(x.guard(p, 7, 0), 0, 0, 0));
    }

    private static void equalOrNot() {
        c.about("promise 22: 1 if their RESULTS are SAME");
        x = new StageConveyor();
        int one = x.whole(1);
        int two = x.whole(2);
        int real = x.real(1.0);
        int[] of = {Kit.row(x, one), Kit.row(x, two), Kit.row(x, real), Kit.row(x, x.real(1.5)),
            Kit.row(x, x.word(1)), Kit.row(x, x.word(27 + 1)), Kit.row(x, x.pair(one, two)),
            Kit.row(x, x.pair(two, one)), Kit.row(x, x.pair(one, real)), Kit.row(x, Kit.list(x, one, two)),
            Kit.row(x, Kit.list(x, one)), Kit.row(x, 0), Kit.row(x, x.cons(0, 0)), x.row(0)};
        for (int i = 0; i < of.length; i++) {
            for (int k = 0; k < of.length; k++) {
                c.due(i == k ? 1 : 0, x.equal(of[i], of[k], 10, 0, 0));
            }
        }
        c.about("promise 22: SAME, though they came of different ones");
        int sorted = x.stage(x.row(Kit.longs(x, 2, 0, 1)), 20, -1, 0);
        c.due(1, x.equal(x.range(0, 3), sorted, 10, 0, 0));
        c.due(1, x.equal(sorted, x.range(0, 3), 1, 0, 0));
        c.due(0, x.equal(sorted, x.range(0, 2), 0, 0, 0));
    }

    private static void equalFailures() {
        c.about("promise 22: or both failures have one number, else 0");
        x = new StageConveyor();
        int p = x.range(0, 3);
        int nought = x.whole(0);
        int row = Kit.row(x, x.word(0), 0);
        int huge = x.steps(1e9, 1e9, 2);
        int[] failing = {
            x.stage(row, 12, x.basic(0), 0),
            x.stage(p, 12, x.bind(x.basic(33), nought, true), 0),
            x.stage(row, 12, x.basic(14), 0),
            x.stage(p, 29, 0, 0),
            x.stage(huge, 12, x.bind(x.basic(39), x.real(1e308), true), 0),
            x.guard(p, 7, 0),
            x.stage(p, 12, x.basic(27), 0),
            x.guard(p, 6, -1),
            x.range(0, 601),
            x.row(0)};
        for (int i = 0; i < failing.length; i++) {
            for (int k = 0; k < failing.length; k += i == k || i > 7 ? 1 : 3) {
                c.due(i == k ? 1 : 0, x.equal(failing[i], failing[k], 19, 0, 0));
            }
            c.due(0, x.equal(failing[i], p, 19, 0, 0));
            c.due(0, x.equal(p, failing[i], 19, 0, 0));
        }
        // at different places, with different GIVEN
        c.due(1, x.equal(x.guard(p, 7, 1), x.guard(x.guard(p, 7, 2), 6, 3), 19, 0, 0));
    }

    private static void equalChangesNothing() {
        c.about("promise 22: both are foretold: nothing is SPENT, p and q may be the same");
        x = new StageConveyor();
        int words = x.row(Kit.word(x, "ab"));
        int more = x.row(Kit.word(x, "ab"));
        c.due(1, x.equal(words, more, 10, 0, 0));
        c.due(1, x.equal(words, words, 10, 0, 0));
        c.due(0, x.look(words, 8));
        c.due(0, x.look(more, 8));
        c.due(16, x.count(6));
        c.about("promise 22: -5 of p, then of q");
        c.due(4, x.run(words, 10, 0, 0));
        c.due(-5, x.equal(words, more, 10, 0, 0));
        c.due(-5, x.equal(more, words, 10, 0, 0));
        c.due(-5, x.equal(words, words, 10, 0, 0));
        c.due(20, x.count(6));
    }

    private static void partsOfEachKind() {
        c.about("promises 23 to 25: a RESULT of each KIND");
        x = new StageConveyor();
        int one = x.whole(1);
        int full = Kit.word(x, "abcdefghijkl");
        int[] of = {one, x.real(1.0), x.word(0), full, x.pair(0, one), 0, x.cons(one, 0)};
        int[] kinds = {0, 1, 2, 2, 3, 4, 4};
        int[] sizes = {0, 0, 0, 12, 2, 0, 1};
        int[] parts = {0, 0, 0, 0, 2, 0, 1};
        for (int i = 0; i < of.length; i++) {
            c.due(kinds[i], x.run(Kit.row(x, of[i]), 5, 0, 0));
            c.due(kinds[i], x.kind(0));
            c.due(sizes[i], x.size(0));
            for (int k = 0; k < 3; k++) {
                c.due(k < parts[i] ? k + 1 : -1, x.part(0, k));
                c.due(k < parts[i] ? 1 : 0, x.kind(k + 1) >= 0 ? 1 : 0);
            }
            c.due(-1, x.part(0, 12));
            for (int n : NEVER) {
                c.due(-1, x.kind(n));
                c.due(-1, x.size(n));
                c.due(-1, x.part(0, n));
                c.due(-1, x.part(n, 0));
            }
        }
    }

    private static void partsOfLargest() {
        c.about("promises 23 to 25: the largest RESULT has parts 0 to 99");
        x = new StageConveyor();
        int heavy = Kit.heavy(x, 100);
        c.due(4, x.run(Kit.only(x, heavy), 5, 0, 0));
        // 9 LONGS, then 9 LISTS of 9 LONGS
        c.due(18, x.size(0));
        for (int i = 0; i < 18; i++) {
            int due = i < 9 ? i + 1 : 10 + 10 * (i - 9);
            c.due(due, x.part(0, i));
            c.due(i < 9 ? 0 : 4, x.kind(due));
            c.due(i < 9 ? 0 : 9, x.size(due));
        }
        c.due(-1, x.part(0, 18));
        c.due(91, x.part(90, 0));
        c.due(99, x.part(90, 8));
        c.due(-1, x.part(90, 9));
        c.due(0, x.kind(99));
        c.due(1, x.told(99));
        c.due(-1, x.kind(100));
        c.due(-1, x.size(100));
        c.due(-1, x.part(99, 0));
        c.due(-1, x.part(100, 0));
        c.dueThrow(() -> x.told(100));
        c.dueThrow(() -> x.measured(100));
        c.about("promises 23 to 25: the deepest");
        x = new StageConveyor();
        c.due(3, x.run(Kit.only(x, Kit.deep(x, 10)), 5, 0, 0));
        for (int n = 0; n < 9; n++) {
            c.due(3, x.kind(n));
            c.due(n + 1, x.part(n, 0));
            c.due(18 - n, x.part(n, 1));
        }
        c.due(0, x.kind(9));
        c.due(0, x.kind(18));
        c.due(-1, x.kind(19));
    }

    private static void numbersOfParts() {
        c.about("promise 23: each part and all in it, one part after the other");
        x = new StageConveyor();
        int one = x.whole(1);
        int pair = x.pair(one, 0);
        int list = Kit.list(x, pair, 0, pair);
        int all = x.pair(list, pair);
        // ([(1, []), [], (1, [])], (1, []))
        c.due(3, x.run(Kit.row(x, all), 5, 0, 0));
        int[] kinds = {3, 4, 3, 0, 4, 4, 3, 0, 4, 3, 0, 4};
        int[] first = {1, 2, 3, -1, -1, -1, 7, -1, -1, 10, -1, -1};
        int[] second = {9, 5, 4, -1, -1, -1, 8, -1, -1, 11, -1, -1};
        int[] third = {-1, 6, -1, -1, -1, -1, -1, -1, -1, -1, -1, -1};
        for (int n = 0; n < 12; n++) {
            c.due(kinds[n], x.kind(n));
            c.due(first[n], x.part(n, 0));
            c.due(second[n], x.part(n, 1));
            c.due(third[n], x.part(n, 2));
            c.due(-1, x.part(n, 3));
            c.due(-1, x.part(n, -1));
        }
        c.due(-1, x.kind(12));
    }

    private static void toldEdges() {
        c.about("promise 26: the LONG that is part n; of a WORD its digits");
        x = new StageConveyor();
        int max = x.whole(Long.MAX_VALUE);
        int min = x.whole(Long.MIN_VALUE);
        int none = x.word(0);
        int full = Kit.word(x, "zzzzzzzzzzzz");
        int real = x.real(1.0);
        int pair = x.pair(max, min);
        x.run(Kit.row(x, max, min, none, full, real, pair, 0), 10, 0, 0);
        c.due(Long.MAX_VALUE, x.told(1));
        c.due(Long.MIN_VALUE, x.told(2));
        c.due(0, x.told(3));
        c.due(150094635296999120L, x.told(4));
        c.due(Long.MAX_VALUE, x.told(7));
        c.due(Long.MIN_VALUE, x.told(8));
        c.about("promise 26: IllegalArgumentException, it is neither");
        int[] others = {0, 5, 6, 9, 10, 11, 99, 100, -1, Integer.MAX_VALUE, Integer.MIN_VALUE};
        for (int n : others) {
            c.dueThrow(() -> x.told(n));
        }
    }

    private static void measuredEdges() {
        c.about("promise 27: the REAL that is part n");
        x = new StageConveyor();
        int most = x.real(Double.MAX_VALUE);
        int least = x.real(-Double.MIN_VALUE);
        int nought = x.real(-0.0);
        int one = x.whole(1);
        x.run(Kit.row(x, most, least, nought, one, x.word(1), x.pair(most, least), 0), 10, 0, 0);
        c.due(Double.MAX_VALUE, x.measured(1));
        c.due(-Double.MIN_VALUE, x.measured(2));
        c.due(0.0, x.measured(3));
        c.due(Double.MAX_VALUE, x.measured(7));
        c.due(-Double.MIN_VALUE, x.measured(8));
        c.about("promise 27: IllegalArgumentException, it is none");
        int[] others = {0, 4, 5, 6, 9, 10, 99, 100, -1, Integer.MAX_VALUE, Integer.MIN_VALUE};
        for (int n : others) {
            c.dueThrow(() -> x.measured(n));
        }
    }

    private static void shorterThanBefore() {
        c.about("promises 23 to 33: the latest RUN alone, though the one before told more");
        x = new StageConveyor();
        int plus = x.basic(30);
        int negated = x.basic(0);
        int p = x.guard(x.guard(x.range(0, 9), 6, -1), 6, -2);
        int zipped = x.both(p, p, 9, plus);
        c.due(-108, x.run(zipped, 10, 0, 0));
        c.due("8 1 9 4 3", failure());
        int short1 = x.stage(x.guard(x.range(7, 8), 6, 5), 12, negated, 0);
        c.due("[-7]", Kit.all(x, short1));
        c.due("0 -1 0 1 0", failure());
        c.due(negated, x.call(0));
        for (int k = 1; k < 12; k++) {
            int at = k;
            c.due(-1, x.call(k));
            c.dueThrow(() -> x.argument(at, false));
        }
        c.dueThrow(() -> x.argument(0, true));
        c.due(5, x.closed(0, false));
        c.dueThrow(() -> x.closed(1, false));
        c.dueThrow(() -> x.closed(0, true));
        c.due(0, x.calls(plus));
        c.due(0, x.given(zipped));
        c.due(-1, x.kind(2));
        c.due(3, x.count(4));
        c.about("promises 23 to 25: a REAL where a WORD or a LIST was");
        int[] values = {Kit.word(x, "abc"), Kit.longs(x, 1, 2), x.pair(0, 0)};
        int real = x.real(0.5);
        for (int value : values) {
            Kit.run(x, x.stage(Kit.row(x, value), 12, x.basic(23), 0), 10, 0, 0);
            Kit.run(x, x.stage(Kit.row(x, real), 12, x.basic(10), 0), 5, 0, 0);
            c.due("0.25", Kit.result(x));
            c.due(0, x.size(0));
            Kit.run(x, x.stage(Kit.row(x, value), 12, x.basic(26), 0), 5, 0, 0);
            Kit.run(x, x.steps(0.5, 1.0, 3), 10, 0, 0);
            for (int n = 1; n <= 3; n++) {
                c.due(0, x.size(n));
                c.due(-1, x.part(n, 0));
            }
            c.due(1, x.equal(x.steps(0.5, 1.0, 3), x.steps(0.5, 1.0, 3), 10, 0, 0));
        }
    }

    private static void withoutResult() {
        c.about("promise 23: -1 without a RESULT");
        x = new StageConveyor();
        int p = x.range(0, 3);
        int[] failing = {x.guard(p, 7, 2), x.guard(p, 6, -1), x.range(0, 601)};
        for (int bad : failing) {
            c.due(4, x.run(p, 10, 0, 0));
            c.due(4, x.kind(0));
            c.due(1, x.run(bad, 0, 0, 0) <= -100 ? 1 : 0);
            dueNoParts();
        }
        c.due(4, x.run(p, 10, 0, 0));
        c.due(-110, x.run(x.range(0, 0), 5, 0, 0));
        dueNoParts();
    }

    private static void refusedTellsNothing() {
        c.about("promise 20: a refused RUN isn't the latest");
        String due = Kit.state(busy());
        Check.Answer[] calls = {o -> o.run(-1, 0, 0, 0), o -> o.run(1, 20, 0, 0), o -> o.run(1, 12, -1, 0),
            o -> o.run(1, 2, 0, 0), o -> o.run(0, 0, 0, 0)};
        int[] answers = {-1, -2, -2, -3, -5};
        for (int i = 0; i < calls.length; i++) {
            x = busy();
            c.due(answers[i], calls[i].of(x));
            c.due(due, Kit.state(x));
        }
    }

    private static void callsOfFunctions() {
        c.about("promise 28: how often FUNCTION f was called");
        x = new StageConveyor();
        int f = x.basic(0);
        int unused = x.basic(1);
        int twice = x.behind(f, f);
        int p = x.range(0, 3);
        c.due("3", Kit.run(x, x.stage(p, 14, twice, 0), 12, f, 0));
        c.due(9, x.calls(f));
        c.due(0, x.calls(unused));
        c.due(3, x.calls(twice));
        c.due(12, x.count(5));
        c.about("promise 28: -1, there is none");
        int[] none = {-1, 3, 4, 59, 60, Integer.MAX_VALUE, Integer.MIN_VALUE};
        for (int n : none) {
            c.due(-1, x.calls(n));
        }
    }

    private static void callsKept() {
        c.about("promise 29: the first 100 are kept");
        for (int n = 98; n <= 102; n++) {
            x = new StageConveyor();
            int f = x.basic(0);
            int p = x.range(0, n);
            c.due(Integer.toString(n), Kit.run(x, p, 12, f, 0));
            c.due(n, x.count(5));
            c.due(n, x.calls(f));
            for (int k = 96; k < 104; k++) {
                int at = k;
                boolean kept = k < n && k < 100;
                c.due(kept ? f : -1, x.call(k));
                if (kept) {
                    c.due(31L * k + 1, x.argument(k, false));
                } else {
                    c.dueThrow(() -> x.argument(at, false));
                }
            }
            for (int k : NEVER) {
                c.due(-1, x.call(k));
            }
        }
        c.about("promise 29: a CALL that FAILS is one");
        x = new StageConveyor();
        int flaky = x.basic(27);
        c.due(-107, x.run(x.range(0, 1), 12, flaky, 0));
        c.due(flaky, x.call(0));
        c.due(-1, x.call(1));
    }

    private static void argumentsOfCalls() {
        c.about("promise 30: the HASH of the first, or second, argument");
        x = new StageConveyor();
        int max = x.whole(Long.MAX_VALUE);
        int pair = x.basic(45);
        int kind = x.basic(24);
        int f = x.behind(kind, pair);
        c.due(0, x.run(x.both(Kit.row(x, max), Kit.row(x, 0), 9, f), 5, 0, 0));
        long hash = 31 * Long.MAX_VALUE + 1;
        c.due(hash, x.argument(0, false));
        c.due(5, x.argument(0, true));
        c.due(hash, x.argument(1, false));
        c.due(5, x.argument(1, true));
        c.due(31 * (31 * hash + 5) + 4, x.argument(2, false));
        c.about("promise 30: IllegalArgumentException, there is none such");
        c.dueThrow(() -> x.argument(2, true));
        int[] none = {3, 4, 99, 100, -1, Integer.MAX_VALUE, Integer.MIN_VALUE};
        for (int k : none) {
            c.dueThrow(() -> x.argument(k, false));
            c.dueThrow(() -> x.argument(k, true));
        }
    }

    private static void givenByPipelines() {
        c.about("promise 31: how many elements p gave, wherever it stood");
        x = new StageConveyor();
        int p = x.range(0, 4);
        int kept = x.stage(p, 11, x.basic(5), 0);
        int joined = x.both(kept, kept, 8, 0);
        int all = x.both(joined, p, 10, 0);
        c.due("8", Kit.run(x, all, 0, 0, 0));
        c.due(8, x.given(all));
        c.due(4, x.given(joined));
        c.due(4, x.given(kept));
        c.due(4 + 4 + 4, x.given(p));
        c.about("promise 31: 0 for one that had no part in it");
        int other = x.range(0, 2);
        c.due("2", Kit.run(x, other, 0, 0, 0));
        c.due(0, x.given(p));
        c.due(0, x.given(all));
        c.due(2, x.given(other));
        c.about("promise 31: -1");
        int[] none = {-1, 5, 6, 79, 80, Integer.MAX_VALUE, Integer.MIN_VALUE};
        for (int n : none) {
            c.due(-1, x.given(n));
        }
        c.about("promise 31: up to where it FAILS");
        int failing = x.guard(p, 7, 2);
        c.due(-106, x.run(failing, 0, 0, 0));
        c.due(2, x.given(p));
        c.due(2, x.given(failing));
    }

    private static void cameSince() {
        c.about("promises 28, 31: 0 for one that came since");
        x = new StageConveyor();
        int f = x.basic(0);
        int p = x.range(0, 4);
        int q = x.stage(p, 12, f, 0);
        c.due(4, x.run(q, 10, 0, 0));
        c.due(0, x.calls(x.basic(0)));
        c.due(0, x.given(x.stage(p, 12, f, 0)));
        c.due(0, x.calls(x.behind(f, f)));
        c.due(4, x.calls(f));
        c.due(4, x.given(q));
        c.about("promises 28, 31, 38: with the number of one that was undone");
        while (x.count(3) > 1) {
            x.undo();
        }
        c.due(-1, x.given(q));
        c.due(q, x.stage(p, 30, 0, 0));
        c.due(0, x.given(q));
        while (x.count(1) > 0) {
            x.undo();
        }
        c.due(-1, x.calls(f));
        c.due(f, x.basic(5));
        c.due(0, x.calls(f));
        c.due(4, x.count(5));
    }

    /** What is told of the last FUNCTION and PIPELINE that there can be, and that it goes. */
    private static void lastNumbers() {
        c.about("promises 28, 31: of FUNCTION 59 and PIPELINE 79");
        x = new StageConveyor();
        for (int f = 0; f < 60; f++) {
            x.basic(0);
        }
        for (int p = 0; p < 79; p++) {
            x.range(0, 2);
        }
        int last = x.stage(78, 12, 59, 0);
        c.due(79, last);
        c.due("2", Kit.run(x, last, 0, 0, 0));
        c.due(2, x.calls(59));
        c.due(2, x.given(79));
        c.due(2, x.given(78));
        c.due(59, x.call(1));
        c.due("2", Kit.run(x, 60, 0, 0, 0));
        c.due(0, x.calls(59));
        c.due(0, x.given(79));
        c.due(0, x.given(78));
        c.due(2, x.given(60));
        for (int f = 19; f < 60; f += 20) {
            c.due("2", Kit.run(x, 20, 12, f, 0));
            c.due(2, x.calls(f));
            c.due("2", Kit.run(x, f, 0, 0, 0));
            c.due(0, x.calls(f));
            c.due(0, x.given(20));
        }
        c.due(-1, x.calls(60));
        c.due(-1, x.given(80));
    }

    private static void failureNumbers() {
        c.about("promise 32: -2 for others");
        x = new StageConveyor();
        int[] none = {-1, 5, 6, 100, Integer.MAX_VALUE, Integer.MIN_VALUE};
        for (int what : none) {
            c.due(-2, x.failure(what));
        }
        c.about("promise 32: 0 its number, 0 without one; 1 AT, -1 without one");
        int p = x.range(0, 3);
        c.due(4, x.run(p, 10, 0, 0));
        c.due("0 -1 0 0 0", failure());
        c.due(-106, x.run(x.guard(p, 7, 2), 10, 0, 0));
        c.due("6 1 2 0 0", failure());
        c.due(4, x.run(p, 10, 0, 0));
        c.due("0 -1 0 0 0", failure());
        for (int what : none) {
            c.due(-2, x.failure(what));
        }
    }

    private static void failureAt() {
        c.about("promise 32: AT the PIPELINE at whose own work it came, -1 at the end's");
        x = new StageConveyor();
        int one = x.whole(1);
        int flaky = x.basic(27);
        int p = x.range(0, 3);
        int[] callers = {x.stage(p, 11, flaky, 0), x.stage(p, 12, flaky, 0), x.stage(p, 13, flaky, 0),
            x.stage(p, 14, flaky, 0), x.stage(p, 17, flaky, 0), x.stage(p, 18, flaky, 0),
            x.stage(p, 20, x.key(flaky, false), 0), x.stage(p, 26, flaky, 0), x.stage(p, 28, flaky, 1)};
        for (int at : callers) {
            c.due("fails 7 at " + at + " given 0", Kit.run(x, at, 0, 0, 0));
            int over = x.stage(x.stage(at, 21, 0, 0), 16, 0, 3);
            c.due("fails 7 at " + at + " given 0", Kit.run(x, over, 0, 0, 0));
            x.undo();
            x.undo();
        }
        int two = x.behind(flaky, x.basic(30));
        int zipped = x.both(p, p, 9, two);
        c.due("fails 7 at " + zipped + " given 0", Kit.run(x, zipped, 0, 0, 0));
        int folded = x.stage(p, 25, two, one);
        c.due("fails 7 at " + folded + " given 0", Kit.run(x, folded, 0, 0, 0));
        int iterated = x.iterate(flaky, one, 3, false);
        c.due("fails 7 at " + iterated + " given 1", Kit.run(x, iterated, 0, 0, 0));
        int unfolded = x.iterate(flaky, one, 3, true);
        c.due("fails 7 at " + unfolded + " given 0", Kit.run(x, unfolded, 0, 0, 0));
        int[] ends = {6, 7, 8, 12, 14, 15};
        for (int end : ends) {
            c.due("fails 7 at -1 given 0", Kit.run(x, p, end, flaky, 0));
        }
        c.due("fails 7 at -1 given 0", Kit.run(x, p, 9, two, one));
        c.due("fails 10 at -1 given 0", Kit.run(x, x.range(0, 0), 19, 0, 0));
    }

    private static void givenAtItsPlace() {
        c.about("promise 32: GIVEN, how many it had given at the place where it stands");
        x = new StageConveyor();
        int p = x.range(0, 5);
        int failing = x.guard(p, 7, 3);
        int two = x.stage(failing, 16, 0, 2);
        int all = x.both(x.both(two, two, 8, 0), failing, 8, 0);
        c.due("fails 6 at " + failing + " given 3", Kit.run(x, all, 0, 0, 0));
        c.due(7, x.given(failing));
        int both = x.both(failing, p, 10, 0);
        c.due("fails 6 at " + failing + " given 3", Kit.run(x, both, 0, 0, 0));
        c.about("promise 32: GIVEN of one whose closing FAILS, at its place");
        int opened = x.guard(p, 6, -1);
        int short1 = x.stage(opened, 16, 0, 1);
        int joined = x.both(short1, x.stage(opened, 16, 0, 4), 8, 0);
        c.due("fails 8 at " + opened + " given 4", Kit.run(x, joined, 0, 0, 0));
        c.due("8 " + opened + " 4 2 1", failure());
        c.due(5, x.given(opened));
    }

    private static String closed(boolean suppressed) {
        StringBuilder so = new StringBuilder();
        int many = x.failure(suppressed ? 4 : 3);
        for (int k = 0; k < many; k++) {
            so.append(k == 0 ? "" : " ").append(x.closed(k, suppressed));
        }
        int[] none = {many, many + 1, -1, Integer.MAX_VALUE, Integer.MIN_VALUE};
        for (int k : none) {
            c.dueThrow(() -> x.closed(k, suppressed));
        }
        return so.toString();
    }

    private static void closedInOrder() {
        c.about("promise 33: the last opened first");
        x = new StageConveyor();
        int a = x.guard(x.range(0, 2), 6, 1);
        int b = x.guard(x.range(5, 7), 6, 2);
        c.due("4", Kit.run(x, x.both(a, b, 8, 0), 0, 0, 0));
        c.due("2 1", closed(false));
        c.due("4", Kit.run(x, x.both(b, a, 8, 0), 0, 0, 0));
        c.due("1 2", closed(false));
        c.due("0", Kit.run(x, x.both(a, b, 10, 0), 5, 0, 0));
        c.due("1", closed(false));
        c.due("5", Kit.run(x, x.both(a, b, 10, 0), 11, 0, 1));
        c.due("2 1", closed(false));
        int over = x.guard(x.both(x.guard(a, 6, 3), b, 8, 0), 6, 4);
        c.due("4", Kit.run(x, over, 0, 0, 0));
        c.due("2 1 3 4", closed(false));
        c.due("", closed(true));
        c.about("promise 33: one that stands there twice is closed twice");
        c.due("4", Kit.run(x, x.both(a, a, 8, 0), 0, 0, 0));
        c.due("1 1", closed(false));
    }

    private static void closedOrSuppressed() {
        c.about("promises 32, 33: the first closing that FAILS is the RUN's failure, others are SUPPRESSED");
        x = new StageConveyor();
        int p = x.range(0, 2);
        int so = p;
        int[] notes = {-1, 5, -2, -3, 6};
        for (int note : notes) {
            so = x.guard(so, 6, note);
        }
        c.due("fails 8 at 1 given 2", Kit.run(x, so, 0, 0, 0));
        c.due("-1 5 -2 -3 6", closed(false));
        c.due("-2 -3", closed(true));
        c.due("8 1 2 5 2", failure());
        c.about("promises 32, 33: of a RUN that has failed all are SUPPRESSED");
        int bad = x.guard(so, 7, 1);
        c.due("fails 6 at " + bad + " given 1", Kit.run(x, bad, 0, 0, 0));
        c.due("-1 5 -2 -3 6", closed(false));
        c.due("-1 -2 -3", closed(true));
        c.due("fails 10 at -1 given 0", Kit.run(x, so, 11, 0, 9));
        c.due("-1 -2 -3", closed(true));
        c.about("promises 32, 33: those that weren't opened aren't closed");
        int cut = x.guard(x.stage(so, 16, 0, 0), 6, -9);
        c.due("fails 8 at " + cut + " given 0", Kit.run(x, cut, 0, 0, 0));
        c.due("-9", closed(false));
        c.due("", closed(true));
        c.due("8 " + cut + " 0 1 0", failure());
    }

    private static void noteOfNought() {
        c.about("FAILURES: where a NOTE is below 0 closing FAILS");
        int[] notes = {0, 1, -1, Integer.MAX_VALUE, Integer.MIN_VALUE};
        for (int note : notes) {
            x = new StageConveyor();
            int p = x.guard(x.range(0, 2), 6, note);
            c.due(note < 0 ? -108 : 0, x.run(p, 0, 0, 0));
            c.due(note < 0 ? "8 1 2 1 0" : "0 -1 0 1 0", failure());
            c.due(Integer.toString(note), closed(false));
            c.due(note < 0 ? -1 : 0, x.kind(0));
        }
    }

    private static void closedWhenRescued() {
        c.about("FAILURES: one that was rescued isn't the RUN's, those opened are closed at the end");
        x = new StageConveyor();
        int nine = x.whole(9);
        int opened = x.guard(x.range(0, 3), 6, 4);
        int rescued = x.stage(x.guard(opened, 7, 1), 27, 0, nine);
        int later = x.guard(x.range(5, 6), 6, 8);
        c.due("[0, 9, 5]", Kit.all(x, x.both(rescued, later, 8, 0)));
        c.due("8 4", closed(false));
        c.due("0 -1 0 2 0", failure());
        c.about("FAILURES: closing FAILS behind RESCUED all the same");
        int bad = x.stage(x.guard(x.guard(x.range(0, 3), 6, -4), 7, 1), 27, 0, nine);
        c.due("fails 8 at " + (bad - 2) + " given 1", Kit.all(x, bad));
        c.due("8 " + (bad - 2) + " 1 1 0", failure());
    }
}
