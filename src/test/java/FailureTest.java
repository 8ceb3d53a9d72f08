/** Promises 32 and 33: failures, and what is closed. */
public final class FailureTest {
    private static final Check c = new Check("FailureTest");

    public static void main(String[] args) {
        each();
        where();
        closing();
        suppressed();
        places();
        c.finish();
    }

    private static String failure(StageConveyor x) {
        StringBuilder so = new StringBuilder();
        for (int what = 0; what < 5; what++) {
            so.append(what == 0 ? "" : " ").append(x.failure(what));
        }
        return so.toString();
    }

    private static String closed(StageConveyor x, boolean suppressed) {
        StringBuilder so = new StringBuilder();
        int many = x.failure(suppressed ? 4 : 3);
        for (int k = 0; k < many; k++) {
            so.append(k == 0 ? "" : " ").append(x.closed(k, suppressed));
        }
        c.dueThrow(() -> x.closed(many, suppressed));
        c.dueThrow(() -> x.closed(-1, suppressed));
        c.dueThrow(() -> x.closed(Integer.MAX_VALUE, suppressed));
        return so.toString();
    }

    private static void each() {
        c.about("promise 32, each number");
        StageConveyor x = new StageConveyor();
        c.due("0 -1 0 0 0", failure(x));
        c.due("", closed(x, false));
        c.due("", closed(x, true));
        c.due(-2, x.failure(-1));
        c.due(-2, x.failure(5));
        c.due(-2, x.failure(Integer.MAX_VALUE));
        int p = x.range(0, 3);
        int rows = Kit.row(x, Kit.longs(x, 1), 0);
        int wide = x.steps(1e9, 1e9, 3);
        c.due(-101, x.run(x.stage(rows, 12, x.basic(0), 0), 0, 0, 0));
        c.due("1 3 0 0 0", failure(x));
        c.due(-102, x.run(x.stage(p, 12, x.bind(x.basic(33), x.whole(0), true), 0), 0, 0, 0));
        c.due("2 4 0 0 0", failure(x));
        c.due(-103, x.run(x.stage(rows, 12, x.basic(19), 0), 0, 0, 0));
        c.due("3 5 1 0 0", failure(x));
        c.due(-104, x.run(x.stage(p, 29, 0, 2), 0, 0, 0));
        c.due("4 6 2 0 0", failure(x));
        int huge = x.bind(x.basic(39), x.real(1.7e308), true);
        c.due(-105, x.run(x.stage(wide, 12, huge, 0), 0, 0, 0));
        c.due("5 7 0 0 0", failure(x));
        c.due(-106, x.run(x.guard(p, 7, 1), 0, 0, 0));
        c.due("6 8 1 0 0", failure(x));
        c.due(-107, x.run(x.stage(p, 12, x.basic(27), 0), 0, 0, 0));
        c.due("7 9 0 0 0", failure(x));
        c.due(-108, x.run(x.guard(p, 6, -1), 0, 0, 0));
        c.due("8 10 3 1 0", failure(x));
        c.due(-109, x.run(x.range(0, 601), 0, 0, 0));
        c.due("9 11 600 0 0", failure(x));
        c.due(-110, x.run(x.range(0, 0), 5, 0, 0));
        c.due("10 -1 0 0 0", failure(x));
        // the next RUN has none of it
        c.due(0, x.run(p, 0, 0, 0));
        c.due("0 -1 0 0 0", failure(x));
    }

    private static void where() {
        c.about("promise 32, AT and GIVEN");
        StageConveyor x = new StageConveyor();
        int f = x.basic(0);
        int word = x.word(1);
        int one = x.whole(1);
        int p = Kit.row(x, one, one, word, one);
        int mapped = x.stage(p, 12, f, 0);
        int cached = x.stage(mapped, 30, 0, 0);
        // AT the one at whose own work it came, however deep it stands
        c.due("fails 1 at " + mapped + " given 2", Kit.run(x, x.stage(cached, 21, 0, 0), 0, 0, 0));
        // keys are the SORTED one's own work, the end's keys the end's
        int key = x.key(f, false);
        int sorted = x.stage(p, 20, key, 0);
        c.due("fails 1 at " + sorted + " given 0", Kit.run(x, sorted, 0, 0, 0));
        c.due("fails 1 at -1 given 0", Kit.run(x, p, 3, key, 0));
        c.due("fails 1 at -1 given 0", Kit.run(x, p, 12, f, 0));
        // its LISTS: the chunk is too heavy
        int list = Kit.list(x, one, one, one, one, one, one, one, one, one, one, one, one, one, one, one,
                one, one, one, one, one, one, one, one, one, one, one, one, one, one, one, one, one);
        int lists = Kit.row(x, one, one, one, one, list, list);
        int chunk = x.stage(x.both(lists, x.stage(lists, 15, 0, 4), 8, 0), 23, 0, 4);
        c.due("fails 4 at " + chunk + " given 1", Kit.run(x, chunk, 0, 0, 0));
        // GIVEN is told of the place where it stands, given() of all places
        int failing = x.guard(x.range(0, 9), 7, 3);
        int taken = x.stage(failing, 16, 0, 2);
        int both = x.both(taken, failing, 8, 0);
        c.due("fails 6 at " + failing + " given 3", Kit.run(x, both, 0, 0, 0));
        c.due(5, x.given(failing));
    }

    private static void closing() {
        c.about("promise 33");
        StageConveyor x = new StageConveyor();
        int p = x.range(0, 4);
        int a = x.guard(p, 6, 11);
        int b = x.guard(x.range(5, 7), 6, 22);
        int j = x.guard(x.both(a, b, 8, 0), 6, 33);
        c.due("[0, 1, 2, 3, 5, 6]", Kit.all(x, j));
        // opened: 33, 11, 22; closed the last opened first
        c.due("22 11 33", closed(x, false));
        c.due("0 -1 0 3 0", failure(x));
        c.due("", closed(x, true));
        // stopped early: what wasn't asked isn't opened
        c.due("0", Kit.run(x, j, 5, 0, 0));
        c.due("11 33", closed(x, false));
        c.due("0 -1 0 2 0", failure(x));
        // a RUN that fails closes, too
        int bad = x.guard(x.guard(p, 6, 7), 7, 1);
        c.due("fails 6 at " + bad + " given 1", Kit.all(x, bad));
        c.due("7", closed(x, false));
        c.due("6 " + bad + " 1 1 0", failure(x));
        // a RUN that was refused, and a foretold one, close nothing that is told
        x.run(bad, 99, 0, 0);
        x.foretell(j, 10, 0, 0);
        c.due("7", closed(x, false));
        c.due("0", Kit.run(x, p, 5, 0, 0));
        c.due("", closed(x, false));
        int extreme = x.guard(x.guard(p, 6, Integer.MAX_VALUE), 6, 0);
        Kit.all(x, extreme);
        c.due("2147483647 0", closed(x, false));
    }

    private static void suppressed() {
        c.about("promises 32 and 33, SUPPRESSED");
        StageConveyor x = new StageConveyor();
        int p = x.range(0, 4);
        int a = x.guard(p, 6, -1);
        int b = x.guard(a, 6, 2);
        int d = x.guard(b, 6, -3);
        int e = x.guard(d, 6, Integer.MIN_VALUE);
        // the first closing that FAILS is the RUN's failure, the others are SUPPRESSED
        c.due("fails 8 at " + a + " given 4", Kit.all(x, e));
        c.due("8 " + a + " 4 4 2", failure(x));
        c.due("-1 2 -3 -2147483648", closed(x, false));
        c.due("-3 -2147483648", closed(x, true));
        c.due("none", Kit.result(x));
        // one that has failed already keeps its failure
        int bad = x.guard(d, 7, 2);
        c.due("fails 6 at " + bad + " given 2", Kit.all(x, bad));
        c.due("6 " + bad + " 2 3 2", failure(x));
        c.due("-1 2 -3", closed(x, false));
        c.due("-1 -3", closed(x, true));
        // STEPS, and NONE of the end, likewise
        int much = x.guard(x.range(0, 700), 6, -9);
        c.due("fails 9 at " + (much - 1) + " given 600", Kit.run(x, much, 0, 0, 0));
        c.due("-9", closed(x, true));
        int none = x.guard(x.range(0, 0), 6, -8);
        c.due("fails 10 at -1 given 0", Kit.run(x, none, 5, 0, 0));
        c.due("-8", closed(x, true));
        // one that stopped early fails by closing: it had given 1
        c.due("fails 8 at " + a + " given 1", Kit.run(x, a, 5, 0, 0));
        c.due("", closed(x, true));
        c.due("-1", closed(x, false));
        // a failure that was rescued isn't one any more
        int rescued = x.stage(bad, 27, 0, x.whole(5));
        c.due("fails 8 at " + a + " given 2", Kit.all(x, rescued));
        c.due("-3", closed(x, true));
    }

    private static void places() {
        c.about("promise 33, one that stands at several places");
        StageConveyor x = new StageConveyor();
        int p = x.guard(x.range(0, 2), 6, -5);
        int twice = x.both(p, p, 8, 0);
        c.due("fails 8 at " + p + " given 2", Kit.all(x, twice));
        c.due("8 " + p + " 2 2 1", failure(x));
        c.due("-5 -5", closed(x, false));
        c.due("-5", closed(x, true));
        // the most that there can be: 39 of them
        StageConveyor y = new StageConveyor();
        int so = y.range(0, 1);
        for (int i = 1; i < 40; i++) {
            so = y.guard(so, 6, -i);
        }
        c.due(-108, y.run(so, 0, 0, 0));
        c.due(39, y.failure(3));
        c.due(38, y.failure(4));
        c.due(-1, y.closed(0, false));
        c.due(-39, y.closed(38, false));
        c.due(-2, y.closed(0, true));
        c.due(-39, y.closed(37, true));
    }
}
