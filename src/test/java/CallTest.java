/** Promises 28 to 31: CALLS and what was given. */
public final class CallTest {
    private static final Check c = new Check("CallTest");

    public static void main(String[] args) {
        calls();
        hundred();
        given();
        since();
        c.finish();
    }

    private static void calls() {
        StageConveyor x = new StageConveyor();
        int minus = x.basic(31);
        int squared = x.basic(2);
        int unused = x.basic(0);
        int less = x.bind(minus, x.whole(1), true);
        int f = x.behind(squared, less);
        int p = x.range(5, 7);
        int q = x.stage(p, 12, f, 0);
        c.about("promise 28");
        c.due(0, x.calls(f));
        c.due("[16, 25]", Kit.all(x, q));
        c.due(2, x.calls(minus));
        c.due(2, x.calls(squared));
        c.due(0, x.calls(unused));
        c.due(2, x.calls(less));
        c.due(2, x.calls(f));
        c.due(-1, x.calls(-1));
        c.due(-1, x.calls(5));
        c.due(-1, x.calls(Integer.MAX_VALUE));
        c.due(8, x.count(5));
        c.about("promise 29");
        c.due("4 3 0 1 4 3 0 1", Kit.calls(x));
        c.due(-1, x.call(-1));
        c.due(-1, x.call(8));
        c.due(-1, x.call(Integer.MAX_VALUE));
        c.due(-1, x.call(Integer.MIN_VALUE));
        c.about("promise 30");
        long[] first = {5, 5, 5, 4, 6, 6, 6, 5};
        for (int k = 0; k < 8; k++) {
            c.due(31 * first[k] + 1, x.argument(k, false));
            int at = k;
            if (k % 4 == 2) {
                c.due(32, x.argument(k, true));
            } else {
                c.dueThrow(() -> x.argument(at, true));
            }
        }
        c.dueThrow(() -> x.argument(8, false));
        c.dueThrow(() -> x.argument(8, true));
        c.dueThrow(() -> x.argument(-1, false));
        c.dueThrow(() -> x.argument(Integer.MAX_VALUE, false));
        c.about("promises 28 to 30, the latest RUN alone");
        x.run(p, 0, 0, 0);
        c.due(0, x.calls(f));
        c.due(0, x.calls(minus));
        c.due(-1, x.call(0));
        c.due(0, x.count(5));
        c.dueThrow(() -> x.argument(0, false));
        // those of a call that FAILS are counted; a one-argument one has no second of an older RUN
        x.run(x.stage(p, 12, x.basic(27), 0), 0, 0, 0);
        c.due("5", Kit.calls(x));
        c.dueThrow(() -> x.argument(0, true));
        x.run(x.both(p, p, 9, minus), 0, 0, 0);
        c.due(5 * 31 + 1, x.argument(0, true));
        x.run(q, 0, 0, 0);
        c.dueThrow(() -> x.argument(0, true));
    }

    private static void hundred() {
        c.about("promises 29 and 30, the first 100 are kept");
        StageConveyor x = new StageConveyor();
        int f = x.basic(0);
        int g = x.basic(1);
        int p = x.stage(x.range(0, 150), 14, f, 0);
        c.due("150", Kit.run(x, p, 12, g, 0));
        c.due(300, x.count(5));
        c.due(150, x.calls(f));
        c.due(150, x.calls(g));
        c.due(f, x.call(98));
        c.due(g, x.call(99));
        c.due(-1, x.call(100));
        c.due(-1, x.call(299));
        c.due(31 * 49 + 1, x.argument(99, false));
        c.dueThrow(() -> x.argument(100, false));
    }

    private static void given() {
        c.about("promise 31");
        StageConveyor x = new StageConveyor();
        int p = x.range(0, 5);
        int taken = x.stage(p, 16, 0, 3);
        int twice = x.both(taken, taken, 8, 0);
        int more = x.both(twice, p, 8, 0);
        c.due(0, x.given(p));
        c.due("11", Kit.run(x, more, 0, 0, 0));
        c.due(11, x.given(more));
        c.due(6, x.given(twice));
        c.due(6, x.given(taken));
        // wherever it stood: below TAKEN twice, and by itself
        c.due(11, x.given(p));
        c.due("0", Kit.run(x, twice, 5, 0, 0));
        c.due(0, x.given(more));
        c.due(1, x.given(p));
        c.due(-1, x.given(-1));
        c.due(-1, x.given(4));
        c.due(-1, x.given(Integer.MAX_VALUE));
        // what was gathered, and not given on
        int sorted = x.stage(p, 20, -1, 0);
        Kit.run(x, sorted, 5, 0, 0);
        c.due(5, x.given(p));
        c.due(1, x.given(sorted));
    }

    private static void since() {
        c.about("promises 28 and 31, one that came since");
        StageConveyor x = new StageConveyor();
        int p = x.range(0, 5);
        int f = x.basic(0);
        int q = x.stage(p, 12, f, 0);
        int g = x.basic(1);
        int r = x.stage(q, 14, g, 0);
        x.run(r, 0, 0, 0);
        c.due(5, x.calls(g));
        c.due(5, x.given(r));
        c.due(0, x.calls(x.basic(1)));
        c.due(0, x.given(x.range(0, 1)));
        x.undo();
        x.undo();
        c.due(3, x.undo());
        c.due(1, x.undo());
        c.due(-1, x.calls(g));
        c.due(-1, x.given(r));
        // what the RUN tells of its CALLS stays
        c.due(g, x.call(1));
        c.due(10, x.count(5));
        // others with these numbers are new
        c.due(g, x.basic(1));
        c.due(0, x.calls(g));
        c.due(r, x.stage(q, 14, g, 0));
        c.due(0, x.given(r));
        c.due(5, x.calls(f));
        c.due(5, x.given(q));
        // those that a rewrite() makes are new, too
        int s = x.stage(q, 12, g, 0);
        x.run(s, 0, 0, 0);
        c.due(3, x.undo());
        int t = x.stage(q, 12, g, 0);
        int made = x.rewrite(t);
        c.due(0, x.given(made));
        c.due(0, x.calls(x.look(made, 3)));
    }
}
