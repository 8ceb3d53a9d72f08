/** Promises 38 and 39: undo() and count(). */
public final class UndoTest {
    private static final Check c = new Check("UndoTest");

    public static void main(String[] args) {
        each();
        spent();
        rewritten();
        runs();
        count();
        c.finish();
    }

    private static void each() {
        c.about("promise 38");
        StageConveyor x = new StageConveyor();
        c.due(-1, x.undo());
        x.whole(1);
        x.basic(0);
        x.key(0, true);
        x.range(0, 3);
        x.stage(0, 30, 0, 0);
        x.real(0.5);
        x.word(1);
        x.pair(1, 2);
        x.cons(1, 0);
        x.basic(30);
        x.behind(0, 0);
        x.bind(1, 1, true);
        x.exchange(1);
        x.then(0, 0);
        x.iterate(0, 1, 1, false);
        x.steps(0.0, 0.0, 0);
        x.row(0);
        x.guard(0, 6, 1);
        x.both(0, 0, 8, 0);
        int[] due = {3, 3, 3, 3, 3, 2, 1, 1, 1, 1, 0, 0, 0, 0, 3, 3, 2, 1, 0};
        for (int i = 0; i < due.length; i++) {
            c.due(due.length - i, x.count(7));
            c.due(due[i], x.undo());
        }
        c.due(0, x.count(7));
        c.due(-1, x.undo());
        c.due(1, x.count(0));
        c.due(0, x.count(1));
        c.due(0, x.count(2));
        c.due(0, x.count(3));
        // numbers are given anew, and refused calls are no buildings
        c.due(-2, x.pair(1, 1));
        c.due(-1, x.guard(0, 6, 0));
        c.due(-1, x.undo());
        c.due(1, x.whole(9));
        c.due(0, x.basic(2));
        c.due(0, x.key(0, false));
        c.due(0, x.range(5, 6));
        c.due("5", Kit.run(x, 0, 5, 0, 0));
        c.due("9", Kit.run(x, Kit.row(x, 1), 5, 0, 0));
    }

    private static void spent() {
        c.about("promise 38, that PIPELINES became SPENT by it");
        StageConveyor x = new StageConveyor();
        int a = x.row(Kit.word(x, "ab"));
        int b = x.row(Kit.word(x, "cd"));
        int joined = x.both(a, b, 8, 0);
        c.due(1, x.look(a, 8));
        c.due(1, x.look(b, 8));
        int over = x.stage(joined, 30, 0, 0);
        c.due(1, x.look(joined, 8));
        c.due(3, x.undo());
        c.due(0, x.look(joined, 8));
        c.due(1, x.look(a, 8));
        c.due(3, x.undo());
        c.due(0, x.look(a, 8));
        c.due(0, x.look(b, 8));
        c.due(over - 1, x.guard(a, 6, 0));
        c.due(1, x.look(a, 8));
        c.due(3, x.undo());
        c.due(0, x.look(a, 8));
        // that it was run stays
        c.due(4, x.run(a, 10, 0, 0));
        x.whole(1);
        c.due(0, x.undo());
        c.due(1, x.look(a, 8));
        c.due(-5, x.both(a, b, 8, 0));
        c.due(0, x.look(b, 8));
    }

    private static void rewritten() {
        c.about("promise 38, all that one rewrite() made");
        StageConveyor x = new StageConveyor();
        int f = x.basic(0);
        int words = x.row(Kit.word(x, "ab"));
        int g = x.basic(12);
        int p = x.stage(x.stage(x.stage(x.stage(words, 12, g, 0), 12, g, 0), 12, g, 0), 16, 0, 3);
        String before = Kit.besidesRules(x);
        int buildings = x.count(7);
        int made = x.rewrite(p);
        c.due(p + 2, made);
        c.due(4, x.count(1));
        c.due(1, x.look(p, 8));
        c.due(buildings + 1, x.count(7));
        c.due(4, x.undo());
        // all but rule() is as it was
        c.due(2, x.rule(7));
        c.due(buildings, x.count(7));
        c.due(2, x.count(1));
        c.due(p + 1, x.count(3));
        c.due(0, x.look(p, 8));
        int again = x.stage(p, 30, 0, 0);
        c.due(p + 1, again);
        c.due(3, x.undo());
        c.due(before, Kit.besidesRules(x));
        c.due(3, x.undo());
        c.due(0, f);
    }

    private static void runs() {
        c.about("promise 38, what the latest RUN tells stays");
        StageConveyor x = new StageConveyor();
        int p = x.range(0, 3);
        int f = x.basic(0);
        int q = x.guard(x.stage(p, 12, f, 0), 6, 8);
        c.due("[0, -1, -2]", Kit.all(x, q));
        while (x.undo() >= 0) {
            c.due("[0, -1, -2]", Kit.result(x));
            c.due("0 0 0", Kit.calls(x));
            c.due(9, x.count(4));
            c.due(3, x.count(5));
            c.due(8, x.closed(0, false));
        }
        c.due(-1, x.calls(f));
        c.due(-1, x.given(p));
        c.due(9, x.count(6));
    }

    private static void count() {
        c.about("promise 39");
        StageConveyor x = new StageConveyor();
        c.due(-2, x.count(-1));
        c.due(-2, x.count(8));
        c.due(-2, x.count(Integer.MAX_VALUE));
        c.due(-2, x.count(Integer.MIN_VALUE));
        int one = x.whole(1);
        x.whole(2);
        int f = x.basic(0);
        x.basic(1);
        x.basic(30);
        x.key(f, true);
        int p = x.range(0, 4);
        int q = x.stage(p, 12, f, 0);
        x.stage(p, 25, 2, one);
        x.row(0);
        int[] due = {3, 3, 1, 4, 0, 0, 0, 10};
        for (int i = 0; i < 8; i++) {
            c.due(due[i], x.count(i));
        }
        x.run(q, 12, 1, 0);
        c.due(4 + 8, x.count(4));
        c.due(8, x.count(5));
        c.due(12, x.count(6));
        x.run(p, 0, 0, 0);
        c.due(4, x.count(4));
        c.due(0, x.count(5));
        c.due(16, x.count(6));
        x.foretell(p, 10, 0, 0);
        x.equal(p, q, 0, 0, 0);
        c.due(4, x.count(4));
        c.due(0, x.count(5));
        c.due(16 + 8 + 4 + 8, x.count(6));
        c.due(10, x.count(7));
        x.undo();
        c.due(9, x.count(7));
        c.due(3, x.count(3));
        // all the rooms there are: 59 + 60 + 20 + 80
        StageConveyor y = new StageConveyor();
        while (y.whole(1) >= 0) {
            y.basic(0);
        }
        while (y.basic(0) >= 0) {
            y.key(0, true);
        }
        while (y.key(0, true) >= 0) {
            y.range(0, 1);
        }
        while (y.range(0, 1) >= 0) {
            y.count(0);
        }
        c.due(219, y.count(7));
    }
}
