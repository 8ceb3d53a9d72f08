/** The edges of COMPARATORS, and promises 11 and 12. */
public final class EdgeComparatorTest {
    private static final Check c = new Check("EdgeComparatorTest");
    private static StageConveyor x;

    public static void main(String[] args) {
        keyRefused();
        thenRefused();
        oneToFour();
        twentieth();
        minusOne();
        nextIfSame();
        down();
        asTheyCame();
        calledAsItComes();
        keysFit();
        c.finish();
    }

    private static String sorted(int p, int comparator) {
        return Kit.all(x, x.stage(p, 20, comparator, 0));
    }

    private static void keyRefused() {
        c.about("promise 11: -2, no such FUNCTION, or not of one argument");
        x = new StageConveyor();
        int one = x.basic(0);
        int two = x.basic(30);
        int[] none = {-1, 2, 3, 60, Integer.MAX_VALUE, Integer.MIN_VALUE, two};
        for (int f : none) {
            c.due(-2, x.key(f, true));
            c.due(-2, x.key(f, false));
        }
        c.due(0, x.count(2));
        c.due(2, x.count(7));
        c.due(0, x.key(one, true));
        c.due(1, x.key(x.bind(two, x.whole(1), true), false));
        c.due(2, x.key(x.behind(one, one), false));
        c.due(-2, x.key(x.exchange(two), false));
        c.due(-2, x.key(x.behind(one, two), false));
    }

    private static void thenRefused() {
        c.about("promise 12: -2, none such");
        x = new StageConveyor();
        int key = x.key(x.basic(0), false);
        int[] none = {-2, 1, 2, 20, Integer.MAX_VALUE, Integer.MIN_VALUE};
        for (int n : none) {
            c.due(-2, x.then(n, key));
            c.due(-2, x.then(key, n));
            c.due(-2, x.then(n, n));
        }
        c.due(1, x.count(2));
        c.due(1, x.then(key, key));
    }

    private static void oneToFour() {
        c.about("promise 12: -2, more than 4 KEYS");
        x = new StageConveyor();
        int f = x.basic(1);
        int one = x.key(f, false);
        int two = x.then(one, one);
        int three = x.then(two, one);
        int four = x.then(three, one);
        int[] by = {one, two, three, four};
        int p = x.range(0, 2);
        for (int i = 0; i < 4; i++) {
            c.due(i, by[i]);
            c.due("[0, 1]", sorted(p, by[i]));
            c.due(2 * (i + 1), x.calls(f));
        }
        int known = x.count(2);
        for (int i = 0; i < 4; i++) {
            for (int k = 0; k < 4; k++) {
                boolean right = i + k + 2 <= 4;
                c.due(right ? known : -2, x.then(by[i], by[k]));
                if (right) {
                    x.undo();
                }
            }
        }
        c.due(known, x.count(2));
    }

    /** Each way to make a COMPARATOR makes the 20th, and no 21st. */
    private static void twentieth() {
        c.about("promises 11 and 12: -4, 20 COMPARATORS are there");
        Check.Answer[] makers = {o -> o.key(0, true), o -> o.then(0, 1)};
        for (Check.Answer maker : makers) {
            StageConveyor o = new StageConveyor();
            o.basic(0);
            for (int i = 0; i < 19; i++) {
                c.due(i, o.key(0, false));
            }
            c.due(19, maker.of(o));
            c.due(-4, maker.of(o));
            c.due(20, o.count(2));
            c.due(21, o.count(7));
            c.due("[1, 0]", Kit.all(o, o.stage(o.range(0, 2), 20, 18, 0)));
            c.due(19, o.look(o.stage(0, 20, 19, 0), 3));
            c.due(-2, o.stage(0, 20, 20, 0));
        }
    }

    private static void minusOne() {
        c.about("Terms: -1 as a COMPARATOR is the ORDER of the VALUES themselves");
        x = new StageConveyor();
        int p = x.row(Kit.longs(x, 2, -1, 3));
        c.due("[-1, 2, 3]", sorted(p, -1));
        c.due(0, x.count(5));
        c.due("-1", Kit.run(x, p, 3, -1, 0));
        c.due("3", Kit.run(x, p, 4, -1, 0));
        c.due("[3, 2]", Kit.run(x, p, 18, -1, 2));
        c.about("Terms: no such COMPARATOR");
        int[] none = {-2, 0, 1, 20, Integer.MAX_VALUE, Integer.MIN_VALUE};
        for (int n : none) {
            c.due(-2, x.stage(p, 20, n, 0));
            c.due(-2, x.run(p, 3, n, 0));
            c.due(-2, x.run(p, 4, n, 0));
            c.due(-2, x.run(p, 18, n, 1));
        }
    }

    private static void nextIfSame() {
        c.about("Terms: if that is SAME by the next, and so on");
        x = new StageConveyor();
        // (rest by 8, rest by 4, rest by 2, itself): each KEY is asked where all before it are SAME
        int rest = x.basic(34);
        int[] by = {2, 4, 8};
        int[] keys = new int[4];
        for (int i = 0; i < 3; i++) {
            keys[i] = x.key(x.bind(rest, x.whole(by[i]), true), false);
        }
        keys[3] = x.key(x.basic(0), false);
        int all = keys[0];
        for (int i = 1; i < 4; i++) {
            all = x.then(all, keys[i]);
        }
        int p = x.range(0, 16);
        c.due("[8, 0, 12, 4, 10, 2, 14, 6, 9, 1, 13, 5, 11, 3, 15, 7]", sorted(p, all));
        c.due("[0, 2, 4, 6, 8, 10, 12, 14, 1, 3, 5, 7, 9, 11, 13, 15]", sorted(p, keys[0]));
        c.due("[0, 4, 8, 12, 2, 6, 10, 14, 1, 5, 9, 13, 3, 7, 11, 15]", sorted(p, x.then(keys[0], keys[1])));
        c.due("8", Kit.run(x, p, 3, all, 0));
        c.due("7", Kit.run(x, p, 4, all, 0));
        c.due("[7, 15]", Kit.run(x, p, 18, all, 2));
    }

    private static void down() {
        c.about("Terms: turned round if it is down");
        x = new StageConveyor();
        int f = x.basic(5);
        int g = x.basic(1);
        int up = x.then(x.key(f, true), x.key(g, false));
        int down = x.then(x.key(f, false), x.key(g, true));
        int p = x.range(0, 5);
        c.due("[0, 2, 4, 1, 3]", sorted(p, up));
        c.due("[3, 1, 4, 2, 0]", sorted(p, down));
        c.due("0", Kit.run(x, p, 3, up, 0));
        c.due("3", Kit.run(x, p, 4, up, 0));
        c.due("3", Kit.run(x, p, 3, down, 0));
        c.due("0", Kit.run(x, p, 4, down, 0));
        c.about("Terms: down, by the KINDS too");
        int itself = x.bind(x.basic(49), 0, true);
        int turned = x.key(itself, true);
        int mixed = Kit.row(x, x.whole(5), x.real(0.5), x.word(1), x.pair(0, 0), 0);
        c.due("[[], ([], []), \"a\", 0.5, 5]", sorted(mixed, turned));
        c.due("[]", Kit.run(x, mixed, 3, turned, 0));
        c.due("5", Kit.run(x, mixed, 4, turned, 0));
        c.due("[5, 0.5, \"a\", ([], []), []]", Kit.run(x, mixed, 18, turned, 10));
    }

    private static void asTheyCame() {
        c.about("SORTED, ENDS 3, 4 and 18: those that are alike as they came");
        int[] counts = {0, 1, 2, 3, 4, 5, 7, 8, 9, 16, 17, 33};
        for (int n : counts) {
            x = new StageConveyor();
            StringBuilder due = new StringBuilder("[");
            for (int i = 0; i < n; i++) {
                due.append(i == 0 ? "" : ", ").append(i);
            }
            int p = x.range(0, n);
            c.due(due + "]", sorted(p, x.key(x.bind(x.basic(49), 0, false), false)));
            c.due(due + "]", sorted(p, x.key(x.bind(x.basic(49), 0, false), true)));
        }
        x = new StageConveyor();
        int same = x.key(x.bind(x.basic(49), 0, false), false);
        int turned = x.key(x.bind(x.basic(49), 0, false), true);
        int p = x.range(5, 9);
        c.due("5", Kit.run(x, p, 3, same, 0));
        c.due("5", Kit.run(x, p, 4, same, 0));
        c.due("5", Kit.run(x, p, 3, turned, 0));
        c.due("5", Kit.run(x, p, 4, turned, 0));
        c.due("[5, 6, 7]", Kit.run(x, p, 18, same, 3));
        c.due("[5, 6, 7]", Kit.run(x, p, 18, turned, 3));
    }

    private static void calledAsItComes() {
        c.about("Terms: Keys are called once for each VALUE, one after the other, as it comes");
        x = new StageConveyor();
        int f = x.basic(1);
        int g = x.basic(0);
        int peek = x.basic(2);
        int both = x.then(x.key(f, false), x.key(g, false));
        int p = x.stage(x.range(1, 3), 14, peek, 0);
        String due = peek + " " + f + " " + g + " " + peek + " " + f + " " + g;
        int s = x.stage(p, 20, both, 0);
        int[] ends = {3, 4, 18};
        c.due(0, x.run(s, 0, 0, 0));
        c.due(due, Kit.calls(x));
        for (int end : ends) {
            c.due(1, x.run(p, end, both, 2) >= 0 ? 1 : 0);
            c.due(due, Kit.calls(x));
        }
        c.about("Terms: a KEY that FAILS stops there");
        int flaky = x.key(x.basic(27), false);
        int bad = x.stage(p, 20, flaky, 0);
        c.due("fails 7 at " + bad + " given 0", Kit.all(x, bad));
        c.due(1, x.given(p));
        for (int end : ends) {
            c.due("fails 7 at -1 given 0", Kit.run(x, p, end, flaky, 1));
            c.due(1, x.given(p));
        }
    }

    private static void keysFit() {
        c.about("KINDS must FIT: what each KEY asks for with the element");
        x = new StageConveyor();
        int any = x.key(x.basic(24), false);
        int longs = x.key(x.basic(0), false);
        int words = x.key(x.basic(11), false);
        int[] right = {any, longs, x.then(any, longs), x.then(longs, any)};
        int[] wrong = {words, x.then(any, words), x.then(words, any), x.then(x.then(any, any), words),
            x.then(x.then(any, any), x.then(longs, words))};
        int p = x.range(0, 2);
        int row = x.row(0);
        int[] ends = {3, 4, 18};
        for (int comparator : right) {
            c.due(1, x.stage(p, 20, comparator, 0) > 0 ? 1 : 0);
            for (int end : ends) {
                c.due(1, x.run(p, end, comparator, 1) >= 0 ? 1 : 0);
            }
        }
        for (int comparator : wrong) {
            c.due(-3, x.stage(p, 20, comparator, 0));
            c.due(1, x.stage(row, 20, comparator, 0) > 0 ? 1 : 0);
            for (int end : ends) {
                c.due(-3, x.run(p, end, comparator, 1));
            }
        }
    }
}
