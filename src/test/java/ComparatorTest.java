/** Promises 11 and 12: COMPARATORS. */
public final class ComparatorTest {
    private static final Check c = new Check("ComparatorTest");

    public static void main(String[] args) {
        key();
        then();
        once();
        anew();
        c.finish();
    }

    private static String sorted(StageConveyor x, int p, int comparator) {
        return Kit.all(x, x.stage(p, 20, comparator, 0));
    }

    private static void key() {
        c.about("promise 11");
        StageConveyor x = new StageConveyor();
        int size = x.basic(1);
        int p = x.row(Kit.longs(x, 3, -1, -3, 2, 1));
        c.due(0, x.key(size, false));
        c.due(1, x.key(size, true));
        c.due("[-1, 1, 2, 3, -3]", sorted(x, p, 0));
        c.due("[3, -3, 2, -1, 1]", sorted(x, p, 1));
        c.due("[-3, -1, 1, 2, 3]", sorted(x, p, -1));
        int plus = x.basic(30);
        c.due(-2, x.key(-1, false));
        c.due(-2, x.key(x.count(1), false));
        c.due(-2, x.key(plus, false));
        c.due(2, x.count(2));
        for (int i = 2; i < 20; i++) {
            c.due(i, x.key(size, false));
        }
        c.due(-4, x.key(size, false));
        c.due(-4, x.then(0, 1));
        c.due(-2, x.key(plus, false));
        c.due(-2, x.then(0, 20));
        c.due(20, x.count(2));
        c.due(2, x.undo());
        c.due(19, x.then(0, 1));
    }

    private static void then() {
        c.about("promise 12");
        StageConveyor x = new StageConveyor();
        int even = x.key(x.basic(5), true);
        int size = x.key(x.basic(1), false);
        int down = x.key(x.basic(0), false);
        int p = x.row(Kit.longs(x, 3, -2, 2, -3, 1, 4));
        int two = x.then(even, size);
        c.due(3, two);
        c.due("[-2, 2, 4, 1, 3, -3]", sorted(x, p, two));
        int three = x.then(two, down);
        c.due("[2, -2, 4, 1, 3, -3]", sorted(x, p, three));
        int turned = x.then(down, two);
        c.due("[4, 3, 2, 1, -2, -3]", sorted(x, p, turned));
        int last = x.then(even, x.key(x.basic(1), true));
        c.due("[4, -2, 2, 3, -3, 1]", sorted(x, p, last));
        int four = x.then(two, two);
        c.due("[-2, 2, 4, 1, 3, -3]", sorted(x, p, four));
        c.due(4 * 6, x.count(5));
        int known = x.count(2);
        c.due(-2, x.then(four, even));
        c.due(-2, x.then(three, two));
        c.due(-2, x.then(-1, even));
        c.due(-2, x.then(even, -1));
        c.due(-2, x.then(known, even));
        c.due(-2, x.then(even, known));
        c.due(known, x.count(2));
        c.due(known, x.then(three, even));
    }

    /** One that undo() took leaves nothing to the next with its number. */
    private static void anew() {
        c.about("promises 11, 12 and 38");
        StageConveyor x = new StageConveyor();
        int f = x.basic(5);
        int g = x.basic(1);
        int p = x.row(Kit.longs(x, 4, -3, 2, 1));
        int even = x.key(f, true);
        int size = x.key(g, false);
        int both = x.then(even, size);
        c.due("[2, 4, 1, -3]", sorted(x, p, both));
        x.undo();
        c.due(2, x.undo());
        c.due(both, x.then(size, even));
        c.due("[1, 2, -3, 4]", sorted(x, p, both));
        c.due(8, x.count(5));
        x.undo();
        c.due(2, x.undo());
        c.due(both, x.key(g, true));
        c.due("[4, -3, 2, 1]", sorted(x, p, both));
        c.due(4, x.count(5));
    }

    /** Keys are called once for each VALUE, one after the other, as it comes. */
    private static void once() {
        c.about("Terms, COMPARATORS");
        StageConveyor x = new StageConveyor();
        int f = x.basic(5);
        int g = x.basic(1);
        int both = x.then(x.key(f, false), x.key(g, false));
        int p = x.range(0, 3);
        c.due("[1, 0, 2]", sorted(x, p, both));
        c.due("0 1 0 1 0 1", Kit.calls(x));
        c.due(1, x.argument(0, false));
        c.due(1, x.argument(1, false));
        c.due(32, x.argument(2, false));
        c.due("1", Kit.run(x, p, 3, both, 0));
        c.due("0 1 0 1 0 1", Kit.calls(x));
        c.due("[2, 0]", Kit.run(x, p, 18, both, 2));
        c.due("0 1 0 1 0 1", Kit.calls(x));
        // all come, and are called with, before anything is given
        int taken = x.stage(x.stage(p, 20, both, 0), 16, 0, 1);
        c.due("[1]", Kit.all(x, taken));
        c.due(6, x.count(5));
        c.due(3, x.given(p));
    }
}
