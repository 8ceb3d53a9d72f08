/** Promises 2 to 6: the VALUES. */
public final class ValueTest {
    private static final Check c = new Check("ValueTest");

    public static void main(String[] args) {
        whole();
        real();
        word();
        pair();
        cons();
        order();
        hash();
        c.finish();
    }

    private static String shown(StageConveyor x, int value) {
        return Kit.run(x, Kit.row(x, value), 5, 0, 0);
    }

    private static void whole() {
        c.about("promise 2");
        StageConveyor x = new StageConveyor();
        c.due(1, x.whole(7));
        c.due(2, x.whole(Long.MIN_VALUE));
        c.due(3, x.whole(Long.MAX_VALUE));
        c.due("7", shown(x, 1));
        c.due("-9223372036854775808", shown(x, 2));
        c.due("9223372036854775807", shown(x, 3));
        StageConveyor y = new StageConveyor();
        for (int i = 1; i < 60; i++) {
            c.due(i, y.whole(i));
        }
        c.due(-4, y.whole(60));
        c.due(60, y.count(0));
        c.due(59, y.count(7));
        c.due(-4, y.real(1.0));
        c.due(-4, y.word(1));
        c.due(-4, y.pair(1, 1));
        c.due(-4, y.cons(1, 0));
        // what is wrong in itself comes ahead of no room
        c.due(-2, y.real(Double.NaN));
        c.due(-2, y.word(-1));
        c.due(-2, y.pair(1, 60));
        c.due(-2, y.cons(1, 1));
        c.due(0, y.undo());
        c.due(59, y.whole(5));
    }

    private static void real() {
        c.about("promise 3");
        StageConveyor x = new StageConveyor();
        c.due(-2, x.real(Double.NaN));
        c.due(-2, x.real(Double.POSITIVE_INFINITY));
        c.due(-2, x.real(Double.NEGATIVE_INFINITY));
        c.due(1, x.count(0));
        c.due(1, x.real(-0.0));
        c.due(2, x.real(Double.MAX_VALUE));
        c.due(3, x.real(-Double.MAX_VALUE));
        c.due(4, x.real(Double.MIN_VALUE));
        c.due("0.0", shown(x, 1));
        c.due("1.7976931348623157E308", shown(x, 2));
        c.due("-1.7976931348623157E308", shown(x, 3));
        c.due("4.9E-324", shown(x, 4));
    }

    private static void word() {
        c.about("promise 4");
        StageConveyor x = new StageConveyor();
        c.due(1, x.word(0));
        c.due("\"\"", shown(x, 1));
        int z = Kit.word(x, "zzzzzzzzzzzz");
        c.due("\"zzzzzzzzzzzz\"", shown(x, z));
        int w = Kit.word(x, "abz");
        c.due("\"abz\"", shown(x, w));
        c.due(1 * 729 + 2 * 27 + 26, x.told(0));
        int known = x.count(0);
        c.due(-2, x.word(-1));
        c.due(-2, x.word(Long.MIN_VALUE));
        c.due(-2, x.word(27));
        c.due(-2, x.word(27 * 27 + 1));
        c.due(-2, x.word(28 * 27));
        c.due(-2, x.word(Kit.digits("aaaaaaaaaaaaa")));
        c.due(-2, x.word(150094635296999121L));
        c.due(-2, x.word(Long.MAX_VALUE));
        c.due(known, x.count(0));
    }

    private static void pair() {
        c.about("promise 5");
        StageConveyor x = new StageConveyor();
        c.due(1, x.whole(1));
        c.due(2, x.pair(1, 0));
        c.due("(1, [])", shown(x, 2));
        int known = x.count(0);
        c.due(-2, x.pair(-1, 0));
        c.due(-2, x.pair(0, -1));
        c.due(-2, x.pair(known, 0));
        c.due(-2, x.pair(0, known));
        c.due(-2, x.pair(Integer.MAX_VALUE, Integer.MIN_VALUE));
        c.due(known, x.count(0));
        c.about("promise 5, DEPTH");
        StageConveyor y = new StageConveyor();
        int deep = y.whole(1);
        for (int depth = 2; depth <= 10; depth++) {
            deep = y.pair(deep, 1);
            c.due(depth, deep);
        }
        c.due(-4, y.pair(deep, 1));
        c.due(-4, y.pair(1, deep));
        c.due(-4, y.cons(deep, 0));
        c.due(11, y.count(0));
        StageConveyor r = new StageConveyor();
        int real = r.real(0.5);
        int letters = r.word(1);
        int nested = r.pair(real, real);
        for (int depth = 3; depth <= 10; depth++) {
            nested = r.pair(nested, real);
            c.due(1, nested > 0 ? 1 : 0);
        }
        c.due(-4, r.pair(nested, real));
        nested = r.pair(letters, letters);
        for (int depth = 3; depth <= 10; depth++) {
            nested = r.pair(nested, letters);
        }
        c.due(-4, r.pair(nested, letters));
        c.about("promise 5, WEIGHT");
        StageConveyor z = new StageConveyor();
        int heavy = z.whole(1);
        for (int i = 0; i < 5; i++) {
            heavy = z.pair(heavy, heavy);
        }
        // of WEIGHT 63 now
        c.due(-4, z.pair(heavy, heavy));
        int light = Kit.list(z, 1, 1, 1, 1, 1, 1, 1, 1, 1, 1, 1, 1, 1, 1, 1, 1, 1, 1, 1, 1, 1, 1, 1, 1,
                1, 1, 1, 1, 1, 1, 1, 1, 1, 1, 1);
        int known2 = z.count(0);
        c.due(known2, z.pair(heavy, light));
        int heavier = z.cons(1, light);
        c.due(-4, z.pair(heavy, heavier));
    }

    private static void cons() {
        c.about("promise 6");
        StageConveyor x = new StageConveyor();
        x.whole(5);
        x.whole(6);
        c.due(3, x.cons(1, 0));
        c.due(4, x.cons(2, 3));
        c.due("[6, 5]", shown(x, 4));
        c.due("[5]", shown(x, 3));
        int known = x.count(0);
        c.due(-2, x.cons(1, 1));
        c.due(-2, x.cons(1, x.count(0)));
        c.due(-2, x.cons(x.count(0), 0));
        c.due(-2, x.cons(-1, 0));
        c.due(-2, x.cons(0, -1));
        int pair = x.pair(1, 1);
        c.due(-2, x.cons(1, pair));
        c.due(known + 1, x.count(0));
        c.due(known + 1, x.cons(0, 0));
        c.about("promise 6, forty elements");
        StageConveyor y = new StageConveyor();
        int one = y.whole(1);
        int made = 0;
        for (int i = 0; i < 40; i++) {
            made = y.cons(one, made);
        }
        c.due(41, made);
        c.due(-4, y.cons(one, made));
        c.due(42, y.count(0));
        c.about("promise 6, WEIGHT 100");
        StageConveyor z = new StageConveyor();
        int five = Kit.longs(z, 1, 2, 3, 4);
        int many = 0;
        for (int i = 0; i < 19; i++) {
            many = z.cons(five, many);
        }
        // 1 + 19 * 5 = 96
        int unit = z.whole(0);
        for (int i = 0; i < 4; i++) {
            many = z.cons(unit, many);
            c.due(1, many > 0 ? 1 : 0);
        }
        c.due(-4, z.cons(unit, many));
    }

    /** Sorted by -1, the ORDER of the VALUES themselves. */
    private static void order() {
        c.about("Terms, ORDER");
        StageConveyor x = new StageConveyor();
        int two = x.whole(2);
        int less = x.whole(-3);
        int real = x.real(-9.5);
        int more = x.real(0.5);
        int b = Kit.word(x, "b");
        int ab = Kit.word(x, "ab");
        int a = Kit.word(x, "a");
        int none = x.word(0);
        int p1 = x.pair(two, less);
        int p2 = x.pair(two, two);
        int p3 = x.pair(less, more);
        int l1 = x.cons(two, 0);
        int l2 = Kit.list(x, less, more);
        int l3 = Kit.list(x, two, less);
        int p = Kit.row(x, l3, l1, l2, 0, p2, p1, p3, b, ab, a, none, more, real, two, less);
        c.due("[-3, 2, -9.5, 0.5, \"\", \"a\", \"ab\", \"b\", (-3, 0.5), (2, -3), (2, 2), [], "
                + "[-3, 0.5], [2], [2, -3]]", Kit.all(x, x.stage(p, 20, -1, 0)));
    }

    private static long hashOf(StageConveyor x, int value) {
        int f = x.basic(25);
        Kit.call(x, f, value);
        long told = x.told(0);
        c.due(told, x.argument(0, false));
        x.undo();
        x.undo();
        x.undo();
        x.undo();
        return told;
    }

    private static void hash() {
        c.about("Terms, HASH");
        StageConveyor x = new StageConveyor();
        int w = x.whole(7);
        int r = x.real(-1.3);
        int ab = Kit.word(x, "ab");
        int huge = x.real(1e300);
        int least = x.real(-1e300);
        int pair = x.pair(w, r);
        int list = Kit.list(x, w, r);
        long hw = 31 * 7 + 1;
        long hr = 31 * -10 + 2;
        c.due(hw, hashOf(x, w));
        c.due(hr, hashOf(x, r));
        c.due((3 * 31 + 1) * 31 + 2, hashOf(x, ab));
        c.due(31 * Long.MAX_VALUE + 2, hashOf(x, huge));
        c.due(31 * Long.MIN_VALUE + 2, hashOf(x, least));
        c.due(31 * (31 * hw + hr) + 4, hashOf(x, pair));
        c.due((5 * 31 + hw) * 31 + hr, hashOf(x, list));
        c.due(5, hashOf(x, 0));
        c.due(3, hashOf(x, x.word(0)));
    }
}
