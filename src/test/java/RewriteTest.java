/** Promises 34 and 35: rewrite() and its rules. */
public final class RewriteTest {
    private static final Check c = new Check("RewriteTest");
    private static StageConveyor x;

    public static void main(String[] args) {
        amounts();
        gathering();
        mapping();
        order();
        others();
        nothing();
        base();
        refused();
        spent();
        rule();
        c.finish();
    }

    /** The stages of p from below on, each as SORT:f:a. */
    private static String stages(int p) {
        StringBuilder so = new StringBuilder();
        for (int at = p; x.look(at, 0) >= 11; at = x.look(at, 1)) {
            so.insert(0, x.look(at, 0) + ":" + x.look(at, 3) + ":" + x.look(at, 4) + " ");
        }
        return so.toString().trim();
    }

    private static int over(int p, int... sortsAndAmounts) {
        int so = p;
        for (int i = 0; i < sortsAndAmounts.length; i += 3) {
            so = x.stage(so, sortsAndAmounts[i], sortsAndAmounts[i + 1], sortsAndAmounts[i + 2]);
        }
        return so;
    }

    private static void amounts() {
        c.about("promise 34, rules 0, 1 and 8");
        x = new StageConveyor();
        int p = x.range(0, 20);
        int made = x.rewrite(over(p, 15, 0, 2, 15, 0, 3));
        c.due(3, made);
        c.due("15:0:5", stages(made));
        c.due("100000000", Kit.rules(x));
        c.due(4, x.run(made, 10, 0, 0));
        c.due("15:0:2000", stages(x.rewrite(over(p, 15, 0, 1000, 15, 0, 1000))));
        c.due("15:0:6", stages(x.rewrite(over(p, 15, 0, 1, 15, 0, 2, 15, 0, 3))));
        c.due("200000000", Kit.rules(x));
        c.due("16:0:3", stages(x.rewrite(over(p, 16, 0, 7, 16, 0, 3))));
        c.due("010000000", Kit.rules(x));
        c.due("16:0:3", stages(x.rewrite(over(p, 16, 0, 3, 16, 0, 7))));
        c.due("29:0:9", stages(x.rewrite(over(p, 29, 0, 9, 29, 0, 12))));
        c.due("000000001", Kit.rules(x));
        c.due("29:0:9", stages(x.rewrite(over(p, 29, 0, 12, 29, 0, 9))));
        // what is between them keeps them apart
        int apart = over(p, 15, 0, 2, 16, 0, 9, 15, 0, 3);
        c.due(apart, x.rewrite(apart));
    }

    private static void gathering() {
        c.about("promise 34, rules 2 to 6");
        x = new StageConveyor();
        int key = x.key(x.basic(1), true);
        int p = x.range(0, 9);
        c.due("30:0:0", stages(x.rewrite(over(p, 21, 0, 0, 21, 0, 0))));
        c.due("001000000", Kit.rules(x));
        c.due("19:0:0", stages(x.rewrite(over(p, 19, 0, 0, 19, 0, 0))));
        c.due("000100000", Kit.rules(x));
        c.due("20:-1:0", stages(x.rewrite(over(p, 20, -1, 0, 20, -1, 0))));
        c.due("000010000", Kit.rules(x));
        c.due("20:0:0", stages(x.rewrite(over(p, 20, key, 0, 20, key, 0))));
        int two = over(p, 20, key, 0, 20, -1, 0);
        c.due(two, x.rewrite(two));
        c.due("000000000", Kit.rules(x));
        c.due("20:-1:0", stages(x.rewrite(over(p, 30, 0, 0, 20, -1, 0))));
        c.due("000001000", Kit.rules(x));
        c.due("21:0:0", stages(x.rewrite(over(p, 30, 0, 0, 21, 0, 0))));
        c.due("000001000", Kit.rules(x));
        c.due("30:0:0", stages(x.rewrite(over(p, 30, 0, 0, 30, 0, 0))));
        c.due("000001000", Kit.rules(x));
        c.due("20:0:0", stages(x.rewrite(over(p, 20, key, 0, 30, 0, 0))));
        c.due("000000100", Kit.rules(x));
        c.due("21:0:0", stages(x.rewrite(over(p, 21, 0, 0, 30, 0, 0))));
        c.due("000000100", Kit.rules(x));
        // REVERSED and SORTED are no neighbours of a rule
        int other = over(p, 21, 0, 0, 20, -1, 0);
        c.due(other, x.rewrite(other));
    }

    private static void mapping() {
        c.about("promise 34, rule 7");
        x = new StageConveyor();
        int negated = x.basic(0);
        int squared = x.basic(2);
        int real = x.basic(7);
        int p = x.range(0, 4);
        int two = over(p, 12, negated, 0, 12, squared, 0);
        int made = x.rewrite(two);
        c.due("12:3:0", stages(made));
        c.due("000000010", Kit.rules(x));
        c.due(4, x.count(1));
        c.due(3, x.shape(3, 4));
        c.due(1, x.equal(two, made, 10, 0, 0));
        // g BEHIND f: f is called first
        Kit.run(x, made, 5, 0, 0);
        c.due("3 " + negated + " " + squared, Kit.calls(x));
        int three = over(p, 12, squared, 0, 12, negated, 0, 12, real, 0);
        int all = x.rewrite(three);
        c.due("12:5:0", stages(all));
        c.due("000000020", Kit.rules(x));
        c.due(6, x.count(1));
        c.due(5, x.shape(5, 4));
        c.due(1, x.shape(5, 3));
        c.due(1, x.look(all, 6));
        c.due("0.0", Kit.run(x, all, 5, 0, 0));
        c.due("5 4 " + squared + " " + negated + " " + real, Kit.calls(x));
        c.about("promise 34, rule 7, SIZES together below 20");
        StageConveyor y = new StageConveyor();
        x = y;
        int f = y.basic(0);
        int nine = f;
        for (int i = 0; i < 4; i++) {
            nine = y.behind(f, nine);
        }
        int ten = y.behind(nine, y.bind(y.basic(30), y.whole(1), true));
        // 9 + 2 + 1 = 12; 12 + 7 = 19 is right, 12 + 8 isn't
        c.due(12, y.shape(ten, 4));
        int seven = nine - 1;
        c.due(7, y.shape(seven, 4));
        int q = y.range(0, 3);
        int right = y.rewrite(over(q, 12, ten, 0, 12, seven, 0));
        c.due(20, y.shape(y.look(right, 3), 4));
        int eight = y.behind(y.behind(f, f), y.behind(f, y.bind(5, 1, false)));
        c.due(8, y.shape(eight, 4));
        int wrong = over(q, 12, ten, 0, 12, eight, 0);
        c.due(wrong, y.rewrite(wrong));
    }

    private static void order() {
        c.about("promise 34, the first neighbours from below on");
        x = new StageConveyor();
        int p = x.range(0, 9);
        // (21 21) 21 -> 30 21 -> 21
        c.due("21:0:0", stages(x.rewrite(over(p, 21, 0, 0, 21, 0, 0, 21, 0, 0))));
        c.due("001001000", Kit.rules(x));
        // 30 21 21, then 21 21, then 30
        c.due("30:0:0", stages(x.rewrite(over(p, 21, 0, 0, 21, 0, 0, 21, 0, 0, 21, 0, 0))));
        c.due("002001000", Kit.rules(x));
        // SORTED CACHED SORTED: the former first, then twice by one
        c.due("20:-1:0", stages(x.rewrite(over(p, 20, -1, 0, 30, 0, 0, 20, -1, 0))));
        c.due("000010100", Kit.rules(x));
        int long5 = over(p, 16, 0, 9, 15, 0, 1, 15, 0, 1, 21, 0, 0, 21, 0, 0);
        c.due("16:0:9 15:0:2 30:0:0", stages(x.rewrite(long5)));
        c.due("101000000", Kit.rules(x));
        // only p's own stages are looked at, not those above it
        int below = over(p, 15, 0, 1);
        over(below, 15, 0, 1);
        c.due(below, x.rewrite(below));
    }

    private static void others() {
        c.about("promise 34, what has no rule");
        x = new StageConveyor();
        int f = x.basic(5);
        int zero = x.whole(0);
        int plus = x.basic(30);
        int p = x.range(0, 9);
        int[] pairs = {11, 13, 14, 17, 18, 22, 23, 24, 25, 26, 27, 28};
        int listed = x.basic(23);
        for (int sort : pairs) {
            int so = p;
            for (int i = 0; i < 2; i++) {
                int fun = sort == 13 ? listed : sort == 25 ? plus : f;
                int below = x.stage(so, sort, fun, sort == 25 || sort == 27 ? zero : 1);
                so = below >= 0 ? below : so;
            }
            c.due(so, x.rewrite(so));
            c.due("000000000", Kit.rules(x));
        }
        int mixed = over(p, 15, 0, 1, 16, 0, 1, 19, 0, 0, 29, 0, 1, 30, 0, 0, 19, 0, 0);
        c.due(mixed, x.rewrite(mixed));
        // stages that stay are made anew as well, with their f, a
        int so = over(p, 11, f, 0, 25, plus, zero, 27, 0, zero, 28, f, 3, 22, 0, 2, 19, 0, 0, 19, 0, 0);
        int made = x.rewrite(so);
        c.due("11:0:0 25:1:1 27:0:1 28:0:3 22:0:2 19:0:0", stages(made));
        c.due(x.count(3) - 1, made);
        c.due(x.look(so, 6), x.look(made, 6));
        c.due(7, x.look(made, 5));
        c.due(0, x.look(made - 1, 8));
        c.due(so + 6, made);
        c.due("15:0:3 16:0:5 29:0:7", stages(x.rewrite(over(p, 15, 0, 1, 15, 0, 2, 16, 0, 5, 29, 0, 7))));
    }

    private static void nothing() {
        c.about("promise 34, no rule holds");
        x = new StageConveyor();
        int p = x.range(0, 9);
        int s = over(p, 15, 0, 1);
        int buildings = x.count(7);
        c.due(p, x.rewrite(p));
        c.due(s, x.rewrite(s));
        c.due(2, x.count(3));
        c.due(buildings, x.count(7));
        // rule() tells 0 of all then
        x.rewrite(over(s, 15, 0, 1));
        c.due("100000000", Kit.rules(x));
        c.due(s, x.rewrite(s));
        c.due("000000000", Kit.rules(x));
        int words = x.row(Kit.word(x, "ab"));
        c.due(words, x.rewrite(words));
        c.due(0, x.look(words, 8));
    }

    private static void base() {
        c.about("promise 34, down to the first one that is no stage");
        x = new StageConveyor();
        int p = x.range(0, 9);
        int inner = over(p, 15, 0, 1, 15, 0, 1);
        int opened = x.guard(inner, 6, 4);
        int so = over(opened, 16, 0, 5, 16, 0, 4);
        int made = x.rewrite(so);
        c.due("16:0:4", stages(made));
        c.due("010000000", Kit.rules(x));
        c.due(opened, x.look(made, 1));
        c.due(5, x.look(made, 5));
        c.due("[2, 3, 4, 5]", Kit.all(x, made));
        int joined = x.both(inner, inner, 8, 0);
        c.due(joined, x.rewrite(joined));
        int over = over(joined, 21, 0, 0, 21, 0, 0);
        c.due(joined, x.look(x.rewrite(over), 1));
    }

    private static void refused() {
        c.about("promise 34, refusals");
        x = new StageConveyor();
        int f = x.basic(0);
        int p = x.range(0, 9);
        int two = over(p, 12, f, 0, 12, f, 0);
        int three = over(p, 12, f, 0, 12, f, 0, 12, f, 0);
        int other = over(p, 15, 0, 1, 16, 0, 1, 15, 0, 1, 15, 0, 1);
        c.due(-1, x.rewrite(-1));
        c.due(-1, x.rewrite(x.count(3)));
        while (x.count(1) < 59) {
            x.basic(0);
        }
        // two FUNCTIONS would be made, and there is room for one
        int known = x.count(3);
        c.due(-4, x.rewrite(three));
        c.due(59, x.count(1));
        c.due(known, x.count(3));
        c.due(1, x.rewrite(two) > 0 ? 1 : 0);
        c.due(60, x.count(1));
        c.due(-4, x.rewrite(two));
        c.due("000000010", Kit.rules(x));
        while (x.count(3) < 78) {
            x.range(0, 1);
        }
        // three PIPELINES
        c.due(-4, x.rewrite(other));
        x.undo();
        c.due(79, x.rewrite(other));
        c.due(80, x.count(3));
        c.due(-4, x.rewrite(other));
        // p itself needs no room
        c.due(p, x.rewrite(p));
        c.due("000000000", Kit.rules(x));
    }

    private static void spent() {
        c.about("promise 34, SPENT");
        x = new StageConveyor();
        int words = x.row(Kit.word(x, "abcd"));
        int so = over(words, 15, 0, 1, 15, 0, 1);
        int made = x.rewrite(so);
        c.due("15:0:2", stages(made));
        c.due(words, x.look(made, 1));
        // another one was made of p
        c.due(1, x.look(so, 8));
        c.due(0, x.look(made, 8));
        c.due(0, x.look(made, 7));
        c.due(-5, x.rewrite(so));
        c.due(-5, x.run(so, 0, 0, 0));
        c.due(-5, x.rewrite(words));
        c.due("100000000", Kit.rules(x));
        c.due("[\"c\", \"d\"]", Kit.all(x, made));
        c.due(-5, x.rewrite(made));
        // and another one of each new stage but the last
        int others = over(x.row(Kit.word(x, "abcd")), 15, 0, 1, 15, 0, 1, 16, 0, 1, 30, 0, 0);
        int top = x.rewrite(others);
        c.due("15:0:2 16:0:1 30:0:0", stages(top));
        c.due(0, x.look(top, 8));
        c.due(1, x.look(top - 1, 8));
        c.due(1, x.look(top - 2, 8));
        c.due(-5, x.run(top - 1, 0, 0, 0));
        c.due("[\"c\"]", Kit.all(x, top));
        while (x.count(3) < 80) {
            x.range(0, 1);
        }
        // -4 ahead of -5
        c.due(-4, x.rewrite(so));
        c.due(-5, x.rewrite(words));
        // one that RESTARTS isn't SPENT
        x = new StageConveyor();
        int again = over(x.range(0, 3), 21, 0, 0, 21, 0, 0);
        x.rewrite(again);
        c.due(0, x.look(again, 8));
    }

    private static void rule() {
        c.about("promise 35");
        x = new StageConveyor();
        c.due("000000000", Kit.rules(x));
        c.due(-2, x.rule(-1));
        c.due(-2, x.rule(9));
        c.due(-2, x.rule(Integer.MAX_VALUE));
        c.due(-2, x.rule(Integer.MIN_VALUE));
        int f = x.basic(0);
        int p = x.range(0, 3);
        int so = over(p, 15, 0, 1, 15, 0, 1, 15, 0, 1, 16, 0, 3, 16, 0, 2, 21, 0, 0, 21, 0, 0, 19, 0, 0,
                19, 0, 0, 20, -1, 0, 20, -1, 0, 30, 0, 0, 12, f, 0, 12, f, 0, 29, 0, 4, 29, 0, 5);
        x.rewrite(so);
        c.due("211110111", Kit.rules(x));
        // a refused one changes nothing
        x.rewrite(-1);
        c.due("211110111", Kit.rules(x));
        // undo() leaves it
        c.due(4, x.undo());
        c.due("211110111", Kit.rules(x));
    }
}
