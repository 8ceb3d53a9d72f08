/** Promises 13 to 18: sources, and those of others. */
public final class SourceTest {
    private static final Check c = new Check("SourceTest");

    public static void main(String[] args) {
        range();
        iterate();
        unfold();
        steps();
        row();
        opened();
        failing();
        joined();
        zipped();
        interleaved();
        bothRefused();
        room();
        c.finish();
    }

    private static String looked(StageConveyor x, int p) {
        StringBuilder so = new StringBuilder();
        for (int what = 0; what < 9; what++) {
            so.append(what == 0 ? "" : " ").append(x.look(p, what));
        }
        return so.toString();
    }

    private static void range() {
        c.about("promise 13");
        StageConveyor x = new StageConveyor();
        c.due(0, x.range(3, 6));
        c.due("[3, 4, 5]", Kit.all(x, 0));
        c.due(6, x.count(4));
        c.due("0 -1 -1 0 0 1 0 1 0", looked(x, 0));
        c.due(1, x.range(5, 5));
        c.due("[]", Kit.all(x, 1));
        c.due(2, x.range(Long.MAX_VALUE, Long.MIN_VALUE));
        c.due("[]", Kit.all(x, 2));
        c.due(3, x.range(0, 10000));
        c.due(-2, x.range(0, 10001));
        c.due(-2, x.range(Long.MIN_VALUE, Long.MAX_VALUE));
        c.due(-2, x.range(-1, Long.MAX_VALUE));
        c.due(-2, x.range(-5000, 5001));
        c.due(4, x.range(Long.MAX_VALUE - 2, Long.MAX_VALUE));
        c.due("[9223372036854775805, 9223372036854775806]", Kit.all(x, 4));
        c.due(5, x.range(Long.MIN_VALUE, Long.MIN_VALUE + 1));
        c.due("[-9223372036854775808]", Kit.all(x, 5));
        c.due(6, x.count(3));
        // it RESTARTS
        c.due("[3, 4, 5]", Kit.all(x, 0));
    }

    private static void iterate() {
        c.about("promise 14, ITERATE");
        StageConveyor x = new StageConveyor();
        int squared = x.basic(2);
        int two = x.whole(2);
        c.due(0, x.iterate(squared, two, 4, false));
        c.due("1 -1 -1 0 4 1 0 0 0", looked(x, 0));
        c.due("[2, 4, 16, 256]", Kit.all(x, 0));
        // f is called when the next one is asked for: 3 times
        c.due(3, x.calls(squared));
        c.due(4 + 3 + 4, x.count(4));
        c.due(-5, x.run(0, 0, 0, 0));
        c.due("[]", Kit.all(x, x.iterate(squared, two, 0, false)));
        int one = x.iterate(squared, two, 1, false);
        c.due("[2]", Kit.all(x, one));
        c.due(0, x.count(5));
        int first = x.iterate(squared, two, 1000, false);
        c.due("2", Kit.run(x, first, 5, 0, 0));
        c.due(0, x.count(5));
        int known = x.count(3);
        c.due(-2, x.iterate(squared, two, -1, false));
        c.due(-2, x.iterate(squared, two, 1001, false));
        c.due(-2, x.iterate(squared, 2, 1, false));
        c.due(-2, x.iterate(squared, -1, 1, false));
        c.due(-2, x.iterate(-1, two, 1, false));
        c.due(-2, x.iterate(1, two, 1, false));
        int plus = x.basic(30);
        c.due(-2, x.iterate(plus, two, 1, false));
        c.due(-3, x.iterate(squared, 0, 1, false));
        int letters = x.basic(11);
        int ab = Kit.word(x, "ab");
        // the VALUE would do, but not the answer
        c.due(-3, x.iterate(letters, ab, 1, false));
        c.due(known, x.count(3));
        int rest = x.basic(20);
        int list = Kit.longs(x, 1, 2);
        int p = x.iterate(rest, list, 5, false);
        c.due(4, x.look(p, 6));
        c.due("fails 3 at " + p + " given 3", Kit.all(x, p));
        int weight = x.basic(28);
        int q = x.iterate(weight, list, 3, false);
        c.due(5, x.look(q, 6));
        c.due("[[1, 2], 3, 1]", Kit.all(x, q));
        int itself = x.basic(19);
        c.due(5, x.look(x.iterate(itself, list, 3, false), 6));
        c.about("promise 14, the STEP behind the CALL");
        int long100 = x.iterate(squared, two, 1000, false);
        c.due("fails 9 at " + long100 + " given 300", Kit.run(x, long100, 0, 0, 0));
        c.due(600, x.count(4));
        // 1 for the first, then 2 for each: the CALL takes the last STEP
        c.due(300, x.count(5));
    }

    private static void unfold() {
        c.about("promise 14, UNFOLD");
        StageConveyor x = new StageConveyor();
        int doubled = x.basic(26);
        int plus = x.basic(30);
        int one = x.whole(1);
        int next = x.bind(plus, one, true);
        int seven = x.whole(7);
        int p = x.iterate(doubled, seven, 3, true);
        c.due(0, p);
        c.due("2 -1 -1 0 3 1 5 0 0", looked(x, 0));
        c.due("[7, 7, 7]", Kit.all(x, p));
        c.due(3, x.calls(doubled));
        c.due(3 + 3 + 3, x.count(4));
        c.due("[]", Kit.all(x, x.iterate(doubled, seven, 0, true)));
        c.due(0, x.count(5));
        int known = x.count(3);
        // what is given must FIT a PAIR
        c.due(-3, x.iterate(next, seven, 3, true));
        int exchanged = x.basic(17);
        c.due(-3, x.iterate(exchanged, seven, 3, true));
        c.due(-2, x.iterate(doubled, seven, 1001, true));
        c.due(-2, x.iterate(doubled, seven, -1, true));
        c.due(-2, x.iterate(plus, seven, 1, true));
        c.due(-2, x.iterate(doubled, 9, 1, true));
        c.due(known, x.count(3));
        // the first part is the element, the second the new state
        int pair = x.pair(seven, one);
        int q = x.iterate(exchanged, pair, 3, true);
        c.due("fails 1 at " + q + " given 1", Kit.all(x, q));
        int r = x.iterate(exchanged, pair, 1, true);
        c.due("[1]", Kit.all(x, r));
        int nested = x.pair(one, x.pair(seven, x.pair(one, seven)));
        int second = x.basic(16);
        int s = x.iterate(second, nested, 9, true);
        c.due("fails 1 at " + s + " given 1", Kit.all(x, s));
        c.due(2, x.calls(second));
        // ANY fits, and FAILS KIND when it gives another
        int first = x.basic(19);
        int t = x.iterate(first, Kit.list(x, seven), 1, true);
        c.due("fails 1 at " + t + " given 0", Kit.all(x, t));
    }

    private static void steps() {
        c.about("promise 15");
        StageConveyor x = new StageConveyor();
        c.due(0, x.steps(0.5, 0.25, 3));
        c.due("3 -1 -1 0 3 1 1 1 0", looked(x, 0));
        c.due("[0.5, 0.75, 1.0]", Kit.all(x, 0));
        c.due(6, x.count(4));
        c.due("[0.0]", Kit.all(x, x.steps(-0.0, -0.0, 1)));
        // start + k * by, not one added to the other
        c.due("[0.0, 0.1, 0.2, 0.30000000000000004, 0.4, 0.5, 0.6000000000000001]",
                Kit.all(x, x.steps(0.0, 0.1, 7)));
        c.due("[]", Kit.all(x, x.steps(1.0, 1.0, 0)));
        c.due("[1.0E9, 0.0, -1.0E9]", Kit.all(x, x.steps(1e9, -1e9, 3)));
        int known = x.count(3);
        c.due(-2, x.steps(0.0, 1.0, -1));
        c.due(-2, x.steps(0.0, 1.0, 1001));
        c.due(-2, x.steps(Double.NaN, 1.0, 1));
        c.due(-2, x.steps(1.0, Double.NaN, 1));
        c.due(-2, x.steps(1000000000.0000001, 1.0, 1));
        c.due(-2, x.steps(-1000000000.0000001, 1.0, 1));
        c.due(-2, x.steps(1.0, 1000000000.0000001, 1));
        c.due(-2, x.steps(1.0, Double.NEGATIVE_INFINITY, 1));
        c.due(known, x.count(3));
        c.due(known, x.steps(0.0, 1.0, 1000));
    }

    private static void row() {
        c.about("promise 16");
        StageConveyor x = new StageConveyor();
        int list = Kit.list(x, x.whole(3), x.real(0.5), 0);
        c.due(0, x.row(list));
        c.due("4 -1 -1 0 " + list + " 1 5 1 0", looked(x, 0));
        c.due("[3, 0.5, []]", Kit.all(x, 0));
        c.due(6, x.count(4));
        c.due("[3, 0.5, []]", Kit.all(x, 0));
        int abc = Kit.word(x, "abc");
        c.due(1, x.row(abc));
        c.due("5 -1 -1 0 " + abc + " 1 2 0 0", looked(x, 1));
        c.due("[\"a\", \"b\", \"c\"]", Kit.all(x, 1));
        c.due(6, x.count(4));
        c.due(-5, x.run(1, 10, 0, 0));
        c.due("[]", Kit.all(x, x.row(x.word(0))));
        int known = x.count(3);
        c.due(-2, x.row(-1));
        c.due(-2, x.row(x.count(0)));
        c.due(-2, x.row(1));
        c.due(-2, x.row(x.real(1.0)));
        c.due(-2, x.row(x.pair(0, 0)));
        c.due(known, x.count(3));
    }

    private static void opened() {
        c.about("promise 17, OPENED");
        StageConveyor x = new StageConveyor();
        int p = x.range(0, 3);
        int q = x.guard(p, 6, 77);
        c.due(1, q);
        c.due("6 0 -1 0 77 2 0 1 0", looked(x, q));
        c.due("[0, 1, 2]", Kit.all(x, q));
        c.due(1, x.failure(3));
        c.due(77, x.closed(0, false));
        c.due(2, x.guard(p, 6, Integer.MIN_VALUE));
        c.due(3, x.guard(p, 6, Integer.MAX_VALUE));
        // it is opened as it is first asked: not behind TAKEN 0
        int none = x.stage(q, 16, 0, 0);
        c.due("[]", Kit.all(x, none));
        c.due(0, x.failure(3));
        // one that has nothing is opened all the same
        int empty = x.guard(x.range(1, 1), 6, 5);
        c.due("[]", Kit.all(x, empty));
        c.due(1, x.failure(3));
        c.due(-1, x.guard(-1, 6, 0));
        c.due(-1, x.guard(x.count(3), 6, 0));
        c.due(-1, x.guard(x.count(3), 99, 0));
        c.due(-2, x.guard(p, 5, 0));
        c.due(-2, x.guard(p, 8, 0));
        c.due(-2, x.guard(p, -6, 0));
        int letters = x.row(Kit.word(x, "ab"));
        int once = x.guard(letters, 6, 1);
        c.due(1, x.look(letters, 8));
        c.due(0, x.look(once, 7));
        c.due(2, x.look(once, 6));
        c.due(-5, x.guard(letters, 6, 1));
        c.due(-2, x.guard(letters, 7, -1));
        c.due("[\"a\", \"b\"]", Kit.all(x, once));
        c.due(-5, x.guard(once, 7, 1));
    }

    private static void failing() {
        c.about("promise 17, FAILING");
        StageConveyor x = new StageConveyor();
        int p = x.range(0, 5);
        int q = x.guard(p, 7, 2);
        c.due("7 0 -1 0 2 2 0 1 0", looked(x, q));
        c.due("fails 6 at " + q + " given 2", Kit.all(x, q));
        // without asking
        c.due(2, x.given(p));
        c.due("fails 6 at " + q + " given 2", Kit.run(x, q, 0, 0, 0));
        c.due("1", Kit.run(x, q, 11, 0, 1));
        int zero = x.guard(p, 7, 0);
        c.due("fails 6 at " + zero + " given 0", Kit.all(x, zero));
        c.due(0, x.given(p));
        // as it is asked behind 5 ones it FAILS, though there are no more
        int five = x.guard(p, 7, 5);
        c.due("fails 6 at " + five + " given 5", Kit.all(x, five));
        int six = x.guard(p, 7, 6);
        c.due("[0, 1, 2, 3, 4]", Kit.all(x, six));
        c.due(-2, x.guard(p, 7, -1));
        c.due(-2, x.guard(p, 7, 1001));
        c.due(x.count(3), x.guard(p, 7, 1000));
    }

    private static void joined() {
        c.about("promise 18, JOINED");
        StageConveyor x = new StageConveyor();
        int p = x.range(0, 2);
        int q = x.range(5, 7);
        int r = x.steps(0.5, 1.0, 1);
        int j = x.both(p, q, 8, 99);
        c.due(3, j);
        c.due("8 0 1 0 0 3 0 1 0", looked(x, j));
        c.due("[0, 1, 5, 6]", Kit.all(x, j));
        int mixed = x.both(q, r, 8, -7);
        c.due(5, x.look(mixed, 6));
        c.due("[5, 6, 0.5]", Kit.all(x, mixed));
        c.due("[0, 1, 0, 1]", Kit.all(x, x.both(p, p, 8, 0)));
        c.due(4, x.given(p));
        // the second isn't asked as long as the first gives
        c.due("1", Kit.run(x, j, 11, 0, 1));
        c.due(0, x.given(q));
        int empty = x.range(1, 1);
        c.due("[5, 6]", Kit.all(x, x.both(empty, q, 8, 0)));
    }

    private static void zipped() {
        c.about("promise 18, ZIPPED");
        StageConveyor x = new StageConveyor();
        int p = x.range(0, 5);
        int q = x.range(10, 12);
        int minus = x.basic(31);
        int z = x.both(p, q, 9, minus);
        c.due("9 0 1 0 0 3 0 1 0", looked(x, z));
        c.due("[-10, -10]", Kit.all(x, z));
        // the third of the first had been asked for
        c.due(3, x.given(p));
        c.due(2, x.given(q));
        int w = x.both(q, p, 9, minus);
        c.due("[10, 10]", Kit.all(x, w));
        c.due(2, x.given(p));
        int pairs = x.basic(45);
        int v = x.both(p, q, 9, pairs);
        c.due("9 0 1 1 0 3 3 1 0", looked(x, v));
        c.due("[(0, 10), (1, 11)]", Kit.all(x, v));
        int divided = x.basic(33);
        int d = x.both(q, p, 9, divided);
        c.due("fails 2 at " + d + " given 0", Kit.all(x, d));
    }

    private static void interleaved() {
        c.about("promise 18, INTERLEAVED");
        StageConveyor x = new StageConveyor();
        int p = x.range(0, 2);
        int q = x.range(10, 20);
        int i = x.both(p, q, 10, 3);
        c.due("10 0 1 0 0 3 0 1 0", looked(x, i));
        c.due("[0, 10, 1, 11]", Kit.all(x, i));
        c.due(2, x.given(q));
        int k = x.both(q, p, 10, 0);
        c.due("[10, 0, 11, 1, 12]", Kit.all(x, k));
        c.due(3, x.given(q));
        int r = x.steps(0.5, 1.0, 1);
        int mixed = x.both(p, r, 10, 0);
        c.due(5, x.look(mixed, 6));
        c.due("[0, 0.5, 1]", Kit.all(x, mixed));
    }

    private static void bothRefused() {
        c.about("promise 18, refusals");
        StageConveyor x = new StageConveyor();
        int p = x.range(0, 2);
        int letters = x.row(Kit.word(x, "ab"));
        int more = x.row(Kit.word(x, "cd"));
        int negated = x.basic(0);
        int plus = x.basic(30);
        int wordy = x.basic(42);
        int known = x.count(3);
        c.due(-1, x.both(-1, p, 8, 0));
        c.due(-1, x.both(p, known, 8, 0));
        c.due(-1, x.both(known, p, 99, 0));
        c.due(-2, x.both(p, p, 7, 0));
        c.due(-2, x.both(p, p, 11, 0));
        c.due(-2, x.both(p, p, 9, -1));
        c.due(-2, x.both(p, p, 9, 3));
        c.due(-2, x.both(p, p, 9, negated));
        c.due(-3, x.both(p, letters, 9, plus));
        c.due(-3, x.both(letters, p, 9, plus));
        c.due(-5, x.both(letters, letters, 8, 0));
        c.due(-5, x.both(letters, letters, 9, wordy));
        c.due(0, x.look(letters, 8));
        c.due(known, x.count(3));
        int z = x.both(letters, more, 9, wordy);
        c.due(1, x.look(letters, 8));
        c.due(1, x.look(more, 8));
        c.due(0, x.look(z, 7));
        c.due("[\"ac\", \"bd\"]", Kit.all(x, z));
        c.due(1, x.look(z, 8));
        c.due(-5, x.both(p, letters, 8, 0));
        c.due(-5, x.both(letters, p, 10, 0));
        c.due(-3, x.both(p, letters, 9, plus));
        StageConveyor y = new StageConveyor();
        int first = y.row(Kit.word(y, "ab"));
        y.both(y.range(0, 1), first, 8, 0);
        c.due(0, first);
        c.due(1, y.look(first, 8));
        c.due(3, y.undo());
        c.due(0, y.look(first, 8));
        int half = x.both(p, x.row(Kit.word(x, "e")), 8, 0);
        c.due(0, x.look(half, 7));
        c.due(0, x.look(p, 8));
    }

    private static void room() {
        c.about("promises 13 to 18, no room");
        StageConveyor x = new StageConveyor();
        int ab = Kit.word(x, "ab");
        int f = x.basic(0);
        int one = x.whole(1);
        int letters = x.row(ab);
        int over = x.guard(letters, 6, 0);
        while (x.count(3) < 80) {
            x.range(0, 1);
        }
        c.due(-4, x.range(0, 1));
        c.due(-2, x.range(0, 10001));
        c.due(-4, x.iterate(f, one, 1, false));
        c.due(-3, x.iterate(f, ab, 1, false));
        c.due(-4, x.iterate(x.basic(26), one, 1, true));
        c.due(-4, x.steps(0.0, 1.0, 1));
        c.due(-2, x.steps(0.0, 1.0, -1));
        c.due(-4, x.row(ab));
        c.due(-2, x.row(one));
        c.due(-4, x.guard(over, 6, 0));
        c.due(-4, x.guard(letters, 6, 0));
        c.due(-4, x.both(2, 3, 8, 0));
        c.due(-4, x.both(letters, letters, 8, 0));
        c.due(-4, x.stage(2, 30, 0, 0));
        c.due(80, x.count(3));
        c.about("promises 17 and 18, SIZE 40");
        StageConveyor y = new StageConveyor();
        int p = y.range(0, 3);
        int twice = p;
        for (int i = 0; i < 4; i++) {
            twice = y.both(twice, twice, 8, 0);
        }
        c.due(31, y.look(twice, 5));
        int so = twice;
        for (int size = 32; size <= 40; size++) {
            so = y.guard(so, 6, 0);
            c.due(size, y.look(so, 5));
        }
        c.due(-4, y.guard(so, 6, 0));
        c.due(-4, y.stage(so, 30, 0, 0));
        c.due(-4, y.both(twice, twice, 8, 0));
        c.due(-4, y.both(so, p, 8, 0));
        c.due("48", Kit.run(y, so, 0, 0, 0));
        c.due(9, y.failure(3));
    }
}
