/** Promises 36 and 37: look() and shape(). */
public final class LookTest {
    private static final Check c = new Check("LookTest");

    public static void main(String[] args) {
        look();
        shape();
        c.finish();
    }

    private static void row(StageConveyor x, int p, int... due) {
        for (int what = 0; what < 9; what++) {
            c.due(due[what], x.look(p, what));
        }
    }

    private static void look() {
        c.about("promise 36");
        StageConveyor x = new StageConveyor();
        int one = x.whole(1);
        int ab = Kit.word(x, "ab");
        int unused = x.basic(1);
        int negated = x.basic(0);
        int plus = x.basic(30);
        int doubled = x.basic(26);
        int key = x.key(unused, false);
        int other = x.key(negated, true);
        c.due(0, key);
        int p = x.range(4, 9);
        row(x, p, 0, -1, -1, 0, 0, 1, 0, 1, 0);
        int it = x.iterate(negated, one, 7, false);
        row(x, it, 1, -1, -1, negated, 7, 1, 0, 0, 0);
        int un = x.iterate(doubled, one, 8, true);
        row(x, un, 2, -1, -1, doubled, 8, 1, 5, 0, 0);
        int st = x.steps(0.0, 1.0, 9);
        row(x, st, 3, -1, -1, 0, 9, 1, 1, 1, 0);
        int ro = x.row(0);
        row(x, ro, 4, -1, -1, 0, 0, 1, 5, 1, 0);
        int le = x.row(ab);
        row(x, le, 5, -1, -1, 0, ab, 1, 2, 0, 0);
        int op = x.guard(it, 6, -12);
        row(x, op, 6, it, -1, 0, -12, 2, 0, 0, 0);
        row(x, it, 1, -1, -1, negated, 7, 1, 0, 0, 1);
        int fa = x.guard(st, 7, 12);
        row(x, fa, 7, st, -1, 0, 12, 2, 1, 1, 0);
        int jo = x.both(p, op, 8, 3);
        row(x, jo, 8, p, op, 0, 0, 4, 0, 0, 0);
        int zi = x.both(p, p, 9, plus);
        row(x, zi, 9, p, p, plus, 0, 3, 0, 1, 0);
        int in = x.both(st, zi, 10, 3);
        row(x, in, 10, st, zi, 0, 0, 5, 5, 1, 0);
        int so = x.stage(p, 20, other, 3);
        row(x, so, 20, p, -1, other, 0, 2, 0, 1, 0);
        int fo = x.stage(p, 25, plus, one);
        row(x, fo, 25, p, -1, plus, one, 2, 0, 1, 0);
        int re = x.stage(st, 27, 3, ab);
        row(x, re, 27, st, -1, 0, ab, 2, 5, 1, 0);
        c.due(-1, x.look(-1, 0));
        c.due(-1, x.look(x.count(3), 0));
        c.due(-1, x.look(x.count(3), 9));
        c.due(-1, x.look(Integer.MIN_VALUE, 0));
        c.due(-2, x.look(p, -1));
        c.due(-2, x.look(p, 9));
        c.due(-2, x.look(p, Integer.MAX_VALUE));
    }

    private static void shape() {
        c.about("promise 37");
        StageConveyor x = new StageConveyor();
        int element = x.basic(48);
        int turned = x.exchange(element);
        int at = x.bind(turned, x.whole(1), false);
        int kind = x.basic(24);
        int f = x.behind(kind, turned);
        int[][] due = {{2, 4, 0, 5, 1}, {2, 0, 4, 5, 2}, {1, 4, -1, 5, 3}, {1, 5, -1, 0, 1}, {2, 0, 4, 0, 4}};
        int[] of = {element, turned, at, kind, f};
        for (int i = 0; i < of.length; i++) {
            for (int what = 0; what < 5; what++) {
                c.due(due[i][what], x.shape(of[i], what));
            }
        }
        c.due(-2, x.shape(-1, 0));
        c.due(-2, x.shape(x.count(1), 0));
        c.due(-2, x.shape(f, -1));
        c.due(-2, x.shape(f, 5));
        c.due(-2, x.shape(Integer.MAX_VALUE, Integer.MAX_VALUE));
    }
}
