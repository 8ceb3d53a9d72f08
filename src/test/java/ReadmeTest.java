/** README.md's examples, in its order: each answer that stands there is due. */
public final class ReadmeTest {
    private static final Check c = new Check("ReadmeTest");

    public static void main(String[] args) {
        StageConveyor x = new StageConveyor();
        int even = x.basic(5);
        int squared = x.basic(2);
        firstRun(x, even, squared);
        int three = x.whole(3);
        order(x, squared, three);
        failure(x, three);
        c.finish();
    }

    private static void firstRun(StageConveyor x, int even, int squared) {
        c.about("README: a first RUN");
        int p = x.range(1, 20);
        p = x.stage(p, 11, even, 0);
        p = x.stage(p, 12, squared, 0);
        p = x.stage(p, 16, 0, 4);
        c.due(4, x.run(p, 10, 0, 0));
        c.due(4, x.size(0));
        c.due(64, x.told(x.part(0, 3)));
        c.due(8, x.calls(even));
    }

    private static void order(StageConveyor x, int squared, int three) {
        c.about("README: FUNCTIONS of FUNCTIONS, and an order");
        int rest = x.bind(x.basic(34), three, true);
        int byRest = x.then(x.key(rest, false), x.key(squared, true));
        int q = x.stage(x.range(0, 7), 20, byRest, 0);
        c.due(0, x.run(q, 5, 0, 0));
        c.due(6, x.told(0));
        c.due("[6, 3, 0, 4, 1, 5, 2]", Kit.all(x, q));
    }

    private static void failure(StageConveyor x, int three) {
        c.about("README: a RUN that fails");
        int r = x.guard(x.range(0, 9), 6, 77);
        r = x.guard(r, 7, 2);
        c.due(-106, x.run(r, 0, 0, 0));
        c.due(r, x.failure(1));
        c.due(2, x.failure(2));
        c.due(77, x.closed(0, false));
        int s = x.stage(r, 27, 0, three);
        c.due(0, x.run(s, 1, 0, 0));
        c.due(4, x.told(0));
    }
}
