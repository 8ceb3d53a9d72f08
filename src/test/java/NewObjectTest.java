/** Promise 1: a new object. */
public final class NewObjectTest {
    public static void main(String[] args) {
        Check c = new Check("NewObjectTest");
        c.about("promise 1");
        StageConveyor x = new StageConveyor();
        int[] counts = {1, 0, 0, 0, 0, 0, 0, 0};
        for (int i = 0; i < counts.length; i++) {
            c.due(counts[i], x.count(i));
        }
        c.due(-1, x.undo());
        c.due(1, x.count(0));
        int[] failures = {0, -1, 0, 0, 0};
        for (int i = 0; i < failures.length; i++) {
            c.due(failures[i], x.failure(i));
        }
        for (int k = 0; k < 9; k++) {
            c.due(0, x.rule(k));
        }
        c.due(-1, x.kind(0));
        c.due(-1, x.size(0));
        c.due(-1, x.part(0, 0));
        c.due(-1, x.calls(0));
        c.due(-1, x.call(0));
        c.due(-1, x.given(0));
        c.dueThrow(() -> x.told(0));
        c.dueThrow(() -> x.measured(0));
        c.dueThrow(() -> x.argument(0, false));
        c.dueThrow(() -> x.closed(0, false));
        c.dueThrow(() -> x.closed(0, true));
        // VALUE 0 is an empty LIST: a ROW of it gives nothing
        c.due(0, x.row(0));
        c.due(4, x.look(0, 0));
        c.due(0, x.run(0, 0, 0, 0));
        c.due(0, x.told(0));
        apart(c);
        c.finish();
    }

    private static void apart(Check c) {
        c.about("promise 1: objects have nothing in common");
        StageConveyor x = new StageConveyor();
        StageConveyor y = new StageConveyor();
        int f = x.basic(0);
        int p = x.range(0, 5);
        x.rewrite(x.stage(x.stage(p, 15, 0, 1), 15, 0, 1));
        c.due(0, x.run(x.guard(p, 6, 3), 12, f, 0));
        c.due(0, y.count(3));
        c.due(Kit.state(new StageConveyor()), Kit.state(y));
        c.due(0, y.range(7, 9));
        c.due(4, y.run(0, 10, 0, 0));
        c.due("5", Kit.result(x));
        c.due("[7, 8]", Kit.result(y));
        c.due(5, x.calls(f));
        c.due(10, x.count(6));
        c.due(4, y.count(6));
        c.due(3, y.undo());
        c.due(5, x.count(3));
    }
}
