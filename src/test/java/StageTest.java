/** Promise 19: the stages, each with what it asks for, gives and costs. */
public final class StageTest {
    private static final Check c = new Check("StageTest");
    private static StageConveyor x;

    public static void main(String[] args) {
        kept();
        mapped();
        flat();
        peeked();
        skippedAndTaken();
        whileAndFrom();
        different();
        sorted();
        reversedAndCached();
        window();
        chunk();
        beside();
        folded();
        grouped();
        rescued();
        retried();
        limited();
        refused();
        amounts();
        spent();
        c.finish();
    }

    private static int longs(long... v) {
        return x.row(Kit.longs(x, v));
    }

    private static String looked(int p) {
        StringBuilder so = new StringBuilder();
        for (int what = 0; what < 9; what++) {
            so.append(what == 0 ? "" : " ").append(x.look(p, what));
        }
        return so.toString();
    }

    private static void kept() {
        c.about("promise 19, KEPT");
        x = new StageConveyor();
        int f = x.basic(5);
        int p = x.range(0, 6);
        int q = x.stage(p, 11, f, -99);
        c.due("11 0 -1 0 0 2 0 1 0", looked(q));
        c.due("[0, 2, 4]", Kit.all(x, q));
        c.due(6, x.calls(f));
        c.due(6 + 6 + 3, x.count(4));
        int first = x.bind(x.basic(49), x.word(1), false);
        int r = x.stage(p, 11, first, 0);
        c.due("fails 1 at " + r + " given 0", Kit.all(x, r));
        // HOLDS: any LONG that isn't 0
        int q3 = x.stage(p, 11, x.basic(0), 0);
        c.due("[1, 2, 3, 4, 5]", Kit.all(x, q3));
    }

    private static void mapped() {
        c.about("promise 19, MAPPED");
        x = new StageConveyor();
        int f = x.basic(2);
        int real = x.basic(7);
        int p = x.range(0, 4);
        int q = x.stage(p, 12, f, 0);
        c.due("12 0 -1 0 0 2 0 1 0", looked(q));
        c.due("[0, 1, 4, 9]", Kit.all(x, q));
        int r = x.stage(p, 12, real, 0);
        c.due(1, x.look(r, 6));
        c.due(real, x.look(r, 3));
        c.due("[0.0, 1.0, 2.0, 3.0]", Kit.all(x, r));
        int halves = x.bind(x.basic(33), x.whole(12), false);
        int d = x.stage(p, 12, halves, 0);
        c.due("fails 2 at " + d + " given 0", Kit.all(x, d));
        int turned = x.stage(x.stage(p, 21, 0, 0), 12, halves, 0);
        c.due("fails 2 at " + turned + " given 3", Kit.all(x, turned));
    }

    private static void flat() {
        c.about("promise 19, FLAT");
        x = new StageConveyor();
        int letters = x.basic(13);
        int p = Kit.row(x, Kit.word(x, "ab"), x.word(0), x.word(0), Kit.word(x, "c"));
        int q = x.stage(p, 13, letters, 0);
        c.due("13 0 -1 0 0 2 5 1 0", looked(q));
        c.due("[\"a\", \"b\", \"c\"]", Kit.all(x, q));
        c.due(4, x.calls(letters));
        // 4 elements, 4 CALLS, 3 elements of LISTS, 3 of the end's
        c.due(4 + 4 + 3 + 3, x.count(4));
        // asked for no further than needed
        c.due("\"b\"", Kit.run(x, q, 11, 0, 1));
        c.due(1, x.given(p));
        int first = x.basic(15);
        int pairs = Kit.row(x, x.pair(0, 0), x.pair(1, 0));
        int r = x.stage(pairs, 13, first, 0);
        c.due("fails 1 at " + r + " given 0", Kit.all(x, r));
        c.due(2, x.calls(first));
        c.due(-3, x.stage(p, 13, x.basic(11), 0));
    }

    private static void peeked() {
        c.about("promise 19, PEEKED");
        x = new StageConveyor();
        int f = x.basic(7);
        int p = x.range(3, 6);
        int q = x.stage(p, 14, f, 0);
        c.due("14 0 -1 0 0 2 0 1 0", looked(q));
        c.due("[3, 4, 5]", Kit.all(x, q));
        c.due(3, x.calls(f));
        c.due(9, x.count(4));
        int bad = x.stage(p, 14, x.bind(x.basic(33), x.whole(0), true), 0);
        c.due("fails 2 at " + bad + " given 0", Kit.all(x, bad));
    }

    private static void skippedAndTaken() {
        c.about("promise 19, SKIPPED and TAKEN");
        x = new StageConveyor();
        int p = x.range(0, 6);
        int s = x.stage(p, 15, 77, 2);
        c.due("15 0 -1 0 2 2 0 1 0", looked(s));
        c.due("[2, 3, 4, 5]", Kit.all(x, s));
        c.due("2", Kit.run(x, s, 5, 0, 0));
        c.due(3, x.given(p));
        c.due("[0, 1, 2, 3, 4, 5]", Kit.all(x, x.stage(p, 15, 0, 0)));
        c.due("[5]", Kit.all(x, x.stage(p, 15, 0, 5)));
        c.due("[]", Kit.all(x, x.stage(p, 15, 0, 6)));
        c.due("[]", Kit.all(x, x.stage(p, 15, 0, 1000)));
        int t = x.stage(p, 16, 77, 2);
        c.due("16 0 -1 0 2 2 0 1 0", looked(t));
        c.due("[0, 1]", Kit.all(x, t));
        // behind these nothing is asked
        c.due(2, x.given(p));
        c.due("[]", Kit.all(x, x.stage(p, 16, 0, 0)));
        c.due(0, x.given(p));
        c.due("[0, 1, 2, 3, 4, 5]", Kit.all(x, x.stage(p, 16, 0, 1000)));
        int failing = x.guard(p, 7, 2);
        c.due("[0, 1]", Kit.all(x, x.stage(failing, 16, 0, 2)));
    }

    private static void whileAndFrom() {
        c.about("promise 19, WHILE and FROM");
        x = new StageConveyor();
        int even = x.basic(5);
        int p = longs(2, 4, 5, 6, 7);
        int w = x.stage(p, 17, even, 0);
        c.due("17 0 -1 0 0 2 5 1 0", looked(w));
        c.due("[2, 4]", Kit.all(x, w));
        c.due(3, x.given(p));
        c.due(3, x.calls(even));
        int f = x.stage(p, 18, even, 0);
        c.due("18 0 -1 0 0 2 5 1 0", looked(f));
        c.due("[5, 6, 7]", Kit.all(x, f));
        // f isn't called any more behind the first
        c.due(3, x.calls(even));
        c.due(5, x.given(p));
        int all = longs(2, 4);
        c.due("[2, 4]", Kit.all(x, x.stage(all, 17, even, 0)));
        // one that has ENDED isn't asked any further
        c.due("[2, 4, 2, 4]", Kit.all(x, x.both(w, all, 8, 0)));
        c.due(3, x.given(p));
        c.due("[]", Kit.all(x, x.stage(all, 18, even, 0)));
        int other = x.bind(x.basic(49), x.word(1), false);
        int bad = x.stage(p, 17, other, 0);
        c.due("fails 1 at " + bad + " given 0", Kit.all(x, bad));
        int worse = x.stage(p, 18, other, 0);
        c.due("fails 1 at " + worse + " given 0", Kit.all(x, worse));
    }

    private static void different() {
        c.about("promise 19, DIFFERENT");
        x = new StageConveyor();
        int one = x.whole(1);
        int same = x.whole(1);
        int real = x.real(1.0);
        int pair = x.pair(one, real);
        int alike = x.pair(same, real);
        int p = Kit.row(x, one, real, pair, same, alike, 0, one, 0);
        int d = x.stage(p, 19, 5, 5);
        c.due("19 0 -1 0 0 2 5 1 0", looked(d));
        c.due("[1, 1.0, (1, 1.0), []]", Kit.all(x, d));
        c.due(8 + 4, x.count(4));
        // one of the same HASH (8 x cut towards 0) is another all the same
        int q = Kit.row(x, x.real(0.01), x.real(0.02), x.real(0.01));
        c.due("[0.01, 0.02]", Kit.all(x, x.stage(q, 19, 0, 0)));
        int rows = x.stage(q, 12, x.basic(23), 0);
        c.due("[[0.01], [0.02]]", Kit.all(x, x.stage(rows, 19, 0, 0)));
        int pairs = x.stage(x.row(Kit.list(x, 1, 2)), 12, x.basic(26), 0);
        c.due("[(1, 1)]", Kit.all(x, x.stage(pairs, 19, 0, 0)));
    }

    private static void sorted() {
        c.about("promise 19, SORTED");
        x = new StageConveyor();
        int p = longs(3, 1, 2, 1, 5, 4, 0);
        int s = x.stage(p, 20, -1, 9);
        c.due("20 0 -1 -1 0 2 5 1 0", looked(s));
        c.due("[0, 1, 1, 2, 3, 4, 5]", Kit.all(x, s));
        c.due("0", Kit.run(x, s, 5, 0, 0));
        c.due(7, x.given(p));
        c.due(1, x.given(s));
        int first = x.key(x.basic(15), false);
        int one = x.whole(1);
        int two = x.whole(2);
        int q = Kit.row(x, x.pair(two, one), x.pair(one, two), x.pair(two, two), x.pair(one, one));
        int stable = x.stage(q, 20, first, 0);
        c.due(first, x.look(stable, 3));
        c.due("[(1, 2), (1, 1), (2, 1), (2, 2)]", Kit.all(x, stable));
        c.due(4 + 4 + 4, x.count(4));
        int down = x.key(x.basic(15), true);
        c.due("[(2, 1), (2, 2), (1, 2), (1, 1)]", Kit.all(x, x.stage(q, 20, down, 0)));
        c.due("[]", Kit.all(x, x.stage(x.range(0, 0), 20, -1, 0)));
        // REALS that are alike, too
        int real = x.key(x.behind(x.basic(7), x.basic(1)), false);
        c.due("[1, -1, 2, -2]", Kit.all(x, x.stage(longs(2, 1, -2, -1), 20, real, 0)));
        int bad = x.stage(p, 20, first, 0);
        c.due("fails 1 at " + bad + " given 0", Kit.all(x, bad));
        c.due(1, x.given(p));
    }

    private static void reversedAndCached() {
        c.about("promise 19, REVERSED and CACHED");
        x = new StageConveyor();
        int p = x.range(0, 4);
        int r = x.stage(p, 21, 5, 5);
        c.due("21 0 -1 0 0 2 0 1 0", looked(r));
        c.due("[3, 2, 1, 0]", Kit.all(x, r));
        c.due(8, x.count(4));
        c.due("3", Kit.run(x, r, 5, 0, 0));
        c.due(4, x.given(p));
        c.due(1, x.given(r));
        int k = x.stage(p, 30, 5, 5);
        c.due("30 0 -1 0 0 2 0 1 0", looked(k));
        c.due("[0, 1, 2, 3]", Kit.all(x, k));
        c.due("0", Kit.run(x, k, 5, 0, 0));
        c.due(4, x.given(p));
        c.due(1, x.given(k));
        int none = x.range(0, 0);
        c.due("[]", Kit.all(x, x.stage(none, 21, 0, 0)));
        c.due("[]", Kit.all(x, x.stage(none, 30, 0, 0)));
        int failing = x.guard(p, 7, 3);
        c.due("fails 6 at " + failing + " given 3", Kit.run(x, x.stage(failing, 30, 0, 0), 5, 0, 0));
    }

    private static void window() {
        c.about("promise 19, WINDOW");
        x = new StageConveyor();
        int p = x.range(0, 5);
        int w = x.stage(p, 22, 7, 3);
        c.due("22 0 -1 0 3 2 4 1 0", looked(w));
        c.due("[[0, 1, 2], [1, 2, 3], [2, 3, 4]]", Kit.all(x, w));
        c.due(5 + 9 + 3, x.count(4));
        c.due("[[0], [1], [2], [3], [4]]", Kit.all(x, x.stage(p, 22, 0, 1)));
        c.due("[[0, 1, 2, 3, 4]]", Kit.all(x, x.stage(p, 22, 0, 5)));
        c.due("[]", Kit.all(x, x.stage(p, 22, 0, 6)));
        c.due("[]", Kit.all(x, x.stage(p, 22, 0, 10)));
        c.due(5, x.count(4));
        int big = Kit.longs(x, 1, 1, 1, 1, 1, 1, 1, 1, 1, 1, 1, 1);
        int row = Kit.row(x, big, big, big, big, big, big, big, 0, 0);
        c.due("1", Kit.run(x, x.stage(x.stage(row, 16, 0, 7), 22, 0, 7), 0, 0, 0));
        // 1 + 7 * 13 + 1 + 1 = 94
        c.due("1", Kit.run(x, x.stage(row, 22, 0, 9), 0, 0, 0));
        int heavy = x.stage(x.stage(row, 12, x.bind(x.basic(46), 0, false), 0), 22, 0, 9);
        // 94 + 9: TOO LARGE
        c.due("fails 4 at " + heavy + " given 0", Kit.run(x, heavy, 0, 0, 0));
    }

    private static void chunk() {
        c.about("promise 19, CHUNK");
        x = new StageConveyor();
        int p = x.range(0, 5);
        int k = x.stage(p, 23, 7, 2);
        c.due("23 0 -1 0 2 2 4 1 0", looked(k));
        c.due("[[0, 1], [2, 3], [4]]", Kit.all(x, k));
        c.due(5 + 5 + 3, x.count(4));
        c.due("[[0, 1, 2, 3, 4]]", Kit.all(x, x.stage(p, 23, 0, 5)));
        c.due("[[0, 1, 2, 3, 4]]", Kit.all(x, x.stage(p, 23, 0, 10)));
        c.due("[[0], [1], [2], [3], [4]]", Kit.all(x, x.stage(p, 23, 0, 1)));
        c.due("[]", Kit.all(x, x.stage(x.range(0, 0), 23, 0, 3)));
        c.due("[0, 1]", Kit.run(x, k, 5, 0, 0));
        c.due(2, x.given(p));
    }

    private static void beside() {
        c.about("promise 19, BESIDE");
        x = new StageConveyor();
        int p = x.range(0, 4);
        int b = x.stage(p, 24, 7, 7);
        c.due("24 0 -1 0 0 2 3 1 0", looked(b));
        c.due("[(0, 1), (1, 2), (2, 3)]", Kit.all(x, b));
        // PAIRS cost nothing
        c.due(4 + 3, x.count(4));
        c.due("[]", Kit.all(x, x.stage(x.range(0, 1), 24, 0, 0)));
        c.due("[]", Kit.all(x, x.stage(x.range(0, 0), 24, 0, 0)));
        int q = x.range(0, 100);
        for (int i = 0; i < 6; i++) {
            q = x.stage(q, 24, 0, 0);
        }
        // 127 is too heavy
        c.due("fails 4 at " + q + " given 0", Kit.run(x, q, 5, 0, 0));
        c.due(3, x.run(q - 1, 5, 0, 0));
    }

    private static void folded() {
        c.about("promise 19, FOLDED");
        x = new StageConveyor();
        int minus = x.basic(31);
        int ten = x.whole(10);
        int p = x.range(1, 4);
        int f = x.stage(p, 25, minus, ten);
        c.due("25 0 -1 0 1 2 0 1 0", looked(f));
        c.due("[9, 7, 4]", Kit.all(x, f));
        c.due(3 + 3 + 3, x.count(4));
        c.due(311, x.argument(0, false));
        c.due(32, x.argument(0, true));
        c.due("[]", Kit.all(x, x.stage(x.range(0, 0), 25, minus, ten)));
        int before = x.exchange(x.basic(46));
        int words = x.row(Kit.word(x, "abc"));
        int g = x.stage(words, 25, before, 0);
        c.due(4, x.look(g, 6));
        c.due("[[\"a\"], [\"b\", \"a\"], [\"c\", \"b\", \"a\"]]", Kit.all(x, g));
        int known = x.count(3);
        int negated = x.basic(0);
        c.due(-2, x.stage(p, 25, negated, ten));
        c.due(-2, x.stage(p, 25, minus, -1));
        c.due(-2, x.stage(p, 25, minus, x.count(0)));
        c.due(-2, x.stage(p, 25, 99, ten));
        // the VALUE, the element, the answer
        c.due(-3, x.stage(p, 25, minus, 0));
        c.due(-3, x.stage(x.steps(0.0, 1.0, 1), 25, minus, ten));
        int below = x.basic(41);
        c.due(-3, x.stage(known, 25, below, x.real(1.0)));
    }

    private static void grouped() {
        c.about("promise 19, GROUPED");
        x = new StageConveyor();
        int even = x.basic(5);
        int p = longs(2, 4, 5, 7, 6, 8, 9);
        int g = x.stage(p, 26, even, 7);
        c.due("26 0 -1 0 0 2 4 1 0", looked(g));
        c.due("[[2, 4], [5, 7], [6, 8], [9]]", Kit.all(x, g));
        c.due(7, x.calls(even));
        c.due(7 + 7 + 7 + 4, x.count(4));
        // given as soon as the next begins
        c.due("[2, 4]", Kit.run(x, g, 5, 0, 0));
        c.due(3, x.given(p));
        c.due(3, x.calls(even));
        c.due("[]", Kit.all(x, x.stage(x.range(0, 0), 26, even, 0)));
        int always = x.bind(x.basic(49), x.whole(1), false);
        int forty = x.stage(x.range(0, 40), 26, always, 0);
        c.due("1", Kit.run(x, forty, 0, 0, 0));
        c.due(40 + 80 + 40, x.count(4));
        int more = x.stage(x.range(0, 41), 26, always, 0);
        c.due("fails 4 at " + more + " given 0", Kit.run(x, more, 0, 0, 0));
        // as the 41st comes, with no LIST made
        c.due(41 + 82, x.count(4));
        int long45 = x.stage(x.range(0, 50), 26, always, 0);
        c.due("fails 4 at " + long45 + " given 0", Kit.run(x, long45, 0, 0, 0));
        c.due(41, x.given(x.look(long45, 1)));
    }

    private static void rescued() {
        c.about("promise 19, RESCUED");
        x = new StageConveyor();
        int p = x.range(0, 5);
        int nine = x.whole(9);
        int ab = Kit.word(x, "ab");
        int failing = x.guard(p, 7, 2);
        int r = x.stage(failing, 27, 77, nine);
        c.due("27 1 -1 0 " + nine + " 3 0 1 0", looked(r));
        c.due("[0, 1, 9]", Kit.all(x, r));
        c.due(0, x.failure(0));
        c.due(-1, x.failure(1));
        c.due(0, x.failure(2));
        c.due(3, x.given(r));
        int w = x.stage(failing, 27, 0, ab);
        c.due(5, x.look(w, 6));
        c.due("[0, 1, \"ab\"]", Kit.all(x, w));
        c.due("[0, 1, 2, 3, 4]", Kit.all(x, x.stage(p, 27, 0, nine)));
        // another failure later on is its own
        int again = x.guard(x.stage(failing, 27, 0, nine), 7, 3);
        c.due("fails 6 at " + again + " given 3", Kit.all(x, again));
        // STEPS aren't rescued
        int much = x.range(0, 1000);
        int q = x.stage(much, 27, 0, nine);
        c.due("fails 9 at " + much + " given 600", Kit.run(x, q, 0, 0, 0));
        c.due(600, x.count(4));
        // what was opened below is closed at the end of the RUN all the same
        int opened = x.stage(x.guard(x.guard(p, 7, 1), 6, -4), 27, 0, nine);
        c.due("fails 8 at " + (opened - 1) + " given 1", Kit.all(x, opened));
        c.due(-2, x.stage(p, 27, 0, -1));
        c.due(-2, x.stage(p, 27, 0, x.count(0)));
    }

    private static void retried() {
        c.about("promise 19, RETRIED");
        x = new StageConveyor();
        int flaky = x.basic(27);
        int p = x.range(0, 4);
        int r = x.stage(p, 28, flaky, 2);
        c.due("28 0 -1 0 2 2 5 1 0", looked(r));
        c.due("[0, 1, 2, 3]", Kit.all(x, r));
        c.due(12, x.calls(flaky));
        c.due(0, x.failure(0));
        int once = x.stage(p, 28, flaky, 1);
        c.due("fails 7 at " + once + " given 0", Kit.all(x, once));
        c.due(2, x.calls(flaky));
        int thrice = x.stage(p, 28, flaky, 3);
        c.due("[0, 1, 2, 3]", Kit.all(x, thrice));
        c.due(12, x.calls(flaky));
        int zero = x.bind(x.basic(33), x.whole(1), false);
        int d = x.stage(p, 28, zero, 3);
        c.due("fails 2 at " + d + " given 0", Kit.all(x, d));
        c.due(4, x.calls(zero));
        int q = x.stage(x.range(0, 200), 28, flaky, 3);
        c.due("fails 9 at " + (q - 1) + " given 150", Kit.run(x, q, 0, 0, 0));
        // STEPS aren't tried again: each element takes 7, and for the second CALL of the last
        // one there is none
        int negated = x.basic(0);
        int s = x.stage(x.range(0, 200), 14, x.behind(negated, negated), 0);
        int t = x.stage(s, 28, flaky, 3);
        c.due("fails 9 at " + t + " given 85", Kit.run(x, t, 0, 0, 0));
        c.due(85 * 3 + 1, x.calls(flaky));
        c.due(600, x.count(4));
        int real = x.basic(7);
        c.due(1, x.look(x.stage(p, 28, real, 1), 6));
        // another FUNCTION's failure below isn't its own call's
        int e = x.stage(x.guard(p, 7, 1), 28, real, 3);
        c.due("fails 6 at " + (e - 1) + " given 1", Kit.all(x, e));
        c.due(1, x.calls(real));
    }

    private static void limited() {
        c.about("promise 19, LIMITED");
        x = new StageConveyor();
        int p = x.range(0, 5);
        int l = x.stage(p, 29, 7, 4);
        c.due("29 0 -1 0 4 2 0 1 0", looked(l));
        c.due("fails 4 at " + l + " given 4", Kit.all(x, l));
        c.due("[0, 1, 2, 3, 4]", Kit.all(x, x.stage(p, 29, 0, 5)));
        int zero = x.stage(p, 29, 0, 0);
        c.due("fails 4 at " + zero + " given 0", Kit.all(x, zero));
        c.due("[]", Kit.all(x, x.stage(x.range(0, 0), 29, 0, 0)));
        int pairs = x.stage(p, 24, 0, 0);
        int w = x.stage(pairs, 29, 0, 11);
        c.due("fails 4 at " + w + " given 3", Kit.all(x, w));
        c.due("4", Kit.run(x, x.stage(pairs, 29, 0, 12), 0, 0, 0));
        c.due(x.count(3), x.stage(p, 29, 0, 10000));
        c.due(-2, x.stage(p, 29, 0, 10001));
        c.due(-2, x.stage(p, 29, 0, -1));
    }

    private static void refused() {
        c.about("promise 19, refusals");
        x = new StageConveyor();
        int one = x.basic(0);
        int two = x.basic(30);
        int wordy = x.basic(11);
        int real = x.basic(7);
        int up = x.key(one, false);
        int both = x.then(x.key(x.basic(24), false), up);
        int other = x.then(x.key(x.basic(24), false), x.key(wordy, true));
        int p = x.range(0, 3);
        int words = x.row(Kit.word(x, "ab"));
        int known = x.count(3);
        c.due(-1, x.stage(-1, 12, one, 0));
        c.due(-1, x.stage(known, 12, one, 0));
        c.due(-1, x.stage(known, 99, one, 0));
        c.due(-2, x.stage(p, 10, one, 0));
        c.due(-2, x.stage(p, 31, one, 0));
        c.due(-2, x.stage(p, Integer.MIN_VALUE, one, 0));
        int[] ofOne = {11, 12, 13, 14, 17, 18, 26, 28};
        for (int sort : ofOne) {
            c.due(-2, x.stage(p, sort, -1, 1));
            c.due(-2, x.stage(p, sort, x.count(1), 1));
            c.due(-2, x.stage(p, sort, two, 1));
            c.due(-3, x.stage(p, sort, wordy, 1));
        }
        c.due(-2, x.stage(p, 20, -2, 0));
        c.due(-2, x.stage(p, 20, x.count(2), 0));
        c.due(-3, x.stage(words, 20, up, 0));
        c.due(-3, x.stage(words, 20, both, 0));
        c.due(-3, x.stage(p, 20, other, 0));
        // an answer that doesn't FIT LONG
        c.due(-3, x.stage(p, 11, real, 0));
        c.due(-3, x.stage(p, 17, real, 0));
        c.due(-3, x.stage(p, 18, real, 0));
        c.due(-3, x.stage(p, 13, one, 0));
        c.due(known, x.count(3));
        // ANY FITS
        int any = x.row(0);
        c.due(1, x.stage(any, 12, wordy, 0) > 0 ? 1 : 0);
        c.due(1, x.stage(any, 20, both, 0) > 0 ? 1 : 0);
    }

    private static void amounts() {
        c.about("promise 19, a out of range");
        x = new StageConveyor();
        int f = x.basic(0);
        int p = x.range(0, 3);
        int[][] ranges = {{15, 0, 1000}, {16, 0, 1000}, {22, 1, 10}, {23, 1, 10}, {28, 1, 3}, {29, 0, 10000}};
        for (int[] r : ranges) {
            c.due(-2, x.stage(p, r[0], f, r[1] - 1));
            c.due(-2, x.stage(p, r[0], f, r[2] + 1));
            int least = x.stage(p, r[0], f, r[1]);
            c.due(r[1], x.look(least, 4));
            int most = x.stage(p, r[0], f, r[2]);
            c.due(r[2], x.look(most, 4));
        }
        // f and a are looked at where they are used alone
        int[] without = {15, 16, 19, 21, 22, 23, 24, 30};
        for (int sort : without) {
            int q = x.stage(p, sort, Integer.MIN_VALUE, 3);
            c.due(sort, x.look(q, 0));
            c.due(0, x.look(q, 3));
        }
        int[] withoutA = {11, 12, 14, 17, 18, 19, 20, 21, 24, 26, 30};
        for (int sort : withoutA) {
            int q = x.stage(p, sort, sort == 20 ? -1 : f, Integer.MAX_VALUE);
            c.due(sort, x.look(q, 0));
            c.due(0, x.look(q, 4));
        }
    }

    private static void spent() {
        c.about("promise 19, SPENT and RESTARTS");
        x = new StageConveyor();
        int words = x.row(Kit.word(x, "ab"));
        int q = x.stage(words, 30, 0, 0);
        c.due(1, x.look(words, 8));
        c.due(0, x.look(q, 8));
        c.due(0, x.look(q, 7));
        c.due(-5, x.stage(words, 30, 0, 0));
        c.due(-5, x.run(words, 0, 0, 0));
        c.due(-2, x.stage(words, 16, 0, -1));
        c.due("[\"a\", \"b\"]", Kit.all(x, q));
        c.due(1, x.look(q, 8));
        c.due(-5, x.stage(q, 30, 0, 0));
        int p = x.range(0, 2);
        int r = x.stage(p, 30, 0, 0);
        c.due(1, x.look(r, 7));
        c.due(0, x.look(p, 8));
        c.due("[0, 1]", Kit.all(x, r));
        c.due(0, x.look(r, 8));
        c.due(1, x.stage(r, 30, 0, 0) > 0 ? 1 : 0);
    }
}
