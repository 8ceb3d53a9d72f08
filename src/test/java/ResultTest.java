/** Promises 23 to 27: the parts of a RESULT. */
public final class ResultTest {
    private static final Check c = new Check("ResultTest");

    public static void main(String[] args) {
        nested();
        single();
        gone();
        largest();
        c.finish();
    }

    private static void nested() {
        StageConveyor x = new StageConveyor();
        int seven = x.whole(7);
        int half = x.real(0.5);
        int ab = Kit.word(x, "ab");
        int pair = x.pair(seven, half);
        int inner = Kit.list(x, pair, ab);
        // [7, [(7, 0.5), "ab"], [], "ab"]
        int p = Kit.row(x, seven, inner, 0, ab);
        c.due(4, x.run(p, 10, 0, 0));
        int[] kinds = {4, 0, 4, 3, 0, 1, 2, 4, 2};
        int[] sizes = {4, 0, 2, 2, 0, 0, 2, 0, 2};
        int[][] parts = {{1, 2, 7, 8}, {}, {3, 6}, {4, 5}, {}, {}, {}, {}, {}};
        for (int n = 0; n < kinds.length; n++) {
            c.about("promise 23");
            c.due(kinds[n], x.kind(n));
            c.about("promise 24");
            c.due(sizes[n], x.size(n));
            c.about("promise 25");
            for (int i = 0; i < 5; i++) {
                c.due(i < parts[n].length ? parts[n][i] : -1, x.part(n, i));
            }
            c.due(-1, x.part(n, -1));
            c.due(-1, x.part(n, Integer.MAX_VALUE));
            c.due(-1, x.part(n, Integer.MIN_VALUE));
        }
        int[] wrong = {-1, 9, 100, Integer.MAX_VALUE, Integer.MIN_VALUE};
        for (int n : wrong) {
            c.about("promises 23 to 27, none such");
            c.due(-1, x.kind(n));
            c.due(-1, x.size(n));
            c.due(-1, x.part(n, 0));
            c.dueThrow(() -> x.told(n));
            c.dueThrow(() -> x.measured(n));
        }
        c.about("promise 26");
        c.due(7, x.told(1));
        c.due(7, x.told(4));
        c.due(29, x.told(6));
        c.due(29, x.told(8));
        c.dueThrow(() -> x.told(0));
        c.dueThrow(() -> x.told(3));
        c.dueThrow(() -> x.told(5));
        c.about("promise 27");
        c.due(0.5, x.measured(5));
        c.dueThrow(() -> x.measured(0));
        c.dueThrow(() -> x.measured(1));
        c.dueThrow(() -> x.measured(3));
        c.dueThrow(() -> x.measured(6));
    }

    private static void single() {
        c.about("promises 23 to 27, a RESULT of one part");
        StageConveyor x = new StageConveyor();
        x.run(x.range(0, 3), 1, 0, 0);
        c.due(0, x.kind(0));
        c.due(0, x.size(0));
        c.due(-1, x.part(0, 0));
        c.due(3, x.told(0));
        c.due(-1, x.kind(1));
        x.run(x.steps(-0.0, 0.0, 2), 2, 0, 0);
        c.due(1, x.kind(0));
        c.due(0, x.size(0));
        c.due(0.0, x.measured(0));
        c.dueThrow(() -> x.told(0));
        x.run(x.row(Kit.word(x, "zz")), 16, 0, 0);
        c.due(2, x.kind(0));
        c.due(2, x.size(0));
        c.due(-1, x.part(0, 0));
        c.due(26 * 27 + 26, x.told(0));
        x.run(x.row(x.word(0)), 16, 0, 0);
        c.due(0, x.size(0));
        c.due(0, x.told(0));
        x.run(x.row(0), 10, 0, 0);
        c.due(4, x.kind(0));
        c.due(0, x.size(0));
        c.due(-1, x.part(0, 0));
        c.dueThrow(() -> x.told(0));
    }

    private static void gone() {
        c.about("promise 23, without a RESULT");
        StageConveyor x = new StageConveyor();
        int p = x.range(0, 3);
        c.due(-1, x.kind(0));
        x.run(p, 10, 0, 0);
        c.due(4, x.kind(0));
        // a refused one changes nothing, nor do foretold ones
        x.run(p, 99, 0, 0);
        x.foretell(p, 0, 0, 0);
        x.equal(p, p, 1, 0, 0);
        c.due("[0, 1, 2]", Kit.result(x));
        // one that fails has none
        c.due(-106, x.run(x.guard(p, 7, 1), 10, 0, 0));
        c.due(-1, x.kind(0));
        c.due(-1, x.size(0));
        c.due(-1, x.part(0, 0));
        c.dueThrow(() -> x.told(0));
        c.dueThrow(() -> x.measured(0));
        x.run(p, 10, 0, 0);
        // neither has one whose closing fails
        c.due(-108, x.run(x.guard(p, 6, -1), 10, 0, 0));
        c.due(-1, x.kind(0));
        x.run(p, 1, 0, 0);
        c.due(3, x.told(0));
        c.due(-1, x.kind(1));
        // what the latest RUN tells stays
        while (x.undo() >= 0) {
            c.due(3, x.told(0));
        }
    }

    private static void largest() {
        c.about("promises 23 to 25, a WEIGHT of 100");
        StageConveyor x = new StageConveyor();
        int p = x.range(0, 33);
        int pairs = x.stage(p, 12, x.basic(26), 0);
        c.due(4, x.run(pairs, 10, 0, 0));
        c.due(33, x.size(0));
        c.due(97, x.part(0, 32));
        c.due(99, x.part(97, 1));
        c.due(32, x.told(99));
        c.due(0, x.kind(99));
        c.due(-1, x.kind(100));
        c.due("fails 4 at -1 given 0", Kit.all(x, x.stage(x.range(0, 34), 12, 0, 0)));
    }
}
