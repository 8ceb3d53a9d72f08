/** The edges of rewrite() and rule(), promises 34 and 35. */
public final class EdgeRewriteTest {
    private static final Check c = new Check("EdgeRewriteTest");
    private static StageConveyor x;

    public static void main(String[] args) {
        eachTwoNeighbours();
        amounts();
        byOneComparator();
        sizesBelowTwenty();
        firstFromBelow();
        untilThereAreNone();
        theFirstSuchRule();
        downToNoStage();
        whatComesOfIt();
        asBefore();
        noRuleHolds();
        roomForPipelines();
        roomForFunctions();
        noPipeline();
        spentByIt();
        used();
        c.finish();
    }

    private static int over(int p, int... sortsWithFAndA) {
        int so = p;
        for (int i = 0; i < sortsWithFAndA.length; i += 3) {
            so = x.stage(so, sortsWithFAndA[i], sortsWithFAndA[i + 1], sortsWithFAndA[i + 2]);
        }
        return so;
    }

    /** The stages of p from below on, each as SORT:f:a. */
    private static String stages(int p) {
        StringBuilder so = new StringBuilder();
        for (int at = p; x.look(at, 0) >= 11; at = x.look(at, 1)) {
            so.insert(0, x.look(at, 0) + ":" + x.look(at, 3) + ":" + x.look(at, 4) + " ");
        }
        return so.toString().trim();
    }

    private static int ruleOf(int below, int above) {
        int[][] rules = {{15, 15, 0}, {16, 16, 1}, {21, 21, 2}, {19, 19, 3}, {20, 20, 4}, {30, 20, 5}, {30, 21, 5},
            {30, 30, 5}, {20, 30, 6}, {21, 30, 6}, {12, 12, 7}, {29, 29, 8}};
        for (int[] rule : rules) {
            if (rule[0] == below && rule[1] == above) {
                return rule[2];
            }
        }
        return -1;
    }

    private static void eachTwoNeighbours() {
        for (int below = 11; below <= 30; below++) {
            for (int above = 11; above <= 30; above++) {
                c.about("promise 34: SORTS " + below + ", " + above);
                x = new StageConveyor();
                int kind = x.basic(24);
                int listed = x.basic(23);
                int second = x.basic(50);
                int[] sorts = {below, above};
                int so = x.row(0);
                for (int sort : sorts) {
                    int f = sort == 13 ? listed : sort == 25 ? second : sort == 20 ? -1 : kind;
                    so = x.stage(so, sort, f, sort == 25 || sort == 27 ? 0 : 1);
                }
                int rule = ruleOf(below, above);
                c.due(2, so);
                c.due(rule < 0 ? so : 3, x.rewrite(so));
                for (int k = 0; k < 9; k++) {
                    c.due(k == rule ? 1 : 0, x.rule(k));
                }
                c.due(rule < 0 ? 3 : 4, x.count(3));
                c.due(rule == 7 ? 4 : 3, x.count(1));
                c.due(rule < 0 ? 6 : 7, x.count(7));
                if (rule >= 0) {
                    c.due(rule == 2 ? 30 : rule == 6 ? below : above, x.look(3, 0));
                    c.due(0, x.look(3, 1));
                    c.due(2, x.look(3, 5));
                }
            }
        }
    }

    private static void amounts() {
        c.about("promise 34, rule 0: SKIPPED a + b");
        x = new StageConveyor();
        int p = x.range(0, 20);
        c.due("15:0:0", stages(x.rewrite(over(p, 15, 0, 0, 15, 0, 0))));
        c.due("15:0:1000", stages(x.rewrite(over(p, 15, 0, 1000, 15, 0, 0))));
        c.due("15:0:1000", stages(x.rewrite(over(p, 15, 0, 1, 15, 0, 999))));
        c.about("promise 34, rule 1: TAKEN the lesser");
        c.due("16:0:0", stages(x.rewrite(over(p, 16, 0, 0, 16, 0, 1000))));
        c.due("16:0:0", stages(x.rewrite(over(p, 16, 0, 1000, 16, 0, 0))));
        c.due("16:0:5", stages(x.rewrite(over(p, 16, 0, 5, 16, 0, 5))));
        c.due("16:0:4", stages(x.rewrite(over(p, 16, 0, 5, 16, 0, 4))));
        c.due("16:0:4", stages(x.rewrite(over(p, 16, 0, 4, 16, 0, 5))));
        c.about("promise 34, rule 8: LIMITED the lesser");
        c.due("29:0:0", stages(x.rewrite(over(p, 29, 0, 0, 29, 0, 10000))));
        c.due("29:0:0", stages(x.rewrite(over(p, 29, 0, 10000, 29, 0, 0))));
        c.due("29:0:7", stages(x.rewrite(over(p, 29, 0, 7, 29, 0, 7))));
        c.due("29:0:6", stages(x.rewrite(over(p, 29, 0, 6, 29, 0, 7))));
        c.due("29:0:6", stages(x.rewrite(over(p, 29, 0, 7, 29, 0, 6))));
    }

    private static void byOneComparator() {
        c.about("promise 34, rule 4: SORTED twice by one COMPARATOR");
        x = new StageConveyor();
        int f = x.basic(1);
        int key = x.key(f, false);
        int alike = x.key(f, false);
        int p = x.range(0, 9);
        int[] by = {-1, key, alike};
        for (int below : by) {
            for (int above : by) {
                int so = over(p, 20, below, 0, 20, above, 0);
                int made = x.rewrite(so);
                c.due(below == above ? "20:" + below + ":0" : "20:" + below + ":0 20:" + above + ":0", stages(made));
                c.due(below == above ? "000010000" : "000000000", Kit.rules(x));
                c.due(below == above ? so + 1 : so, made);
            }
        }
        c.about("promise 34, rule 5: the latter, with its COMPARATOR");
        c.due("20:1:0", stages(x.rewrite(over(p, 30, 0, 0, 20, alike, 0))));
        c.about("promise 34, rule 6: the former, with its COMPARATOR");
        c.due("20:1:0", stages(x.rewrite(over(p, 20, alike, 0, 30, 0, 0))));
    }

    /** A FUNCTION of one LONG of this SIZE. */
    private static int ofSize(int size) {
        int negated = x.basic(0);
        int made = size % 2 == 1 ? negated : x.bind(x.basic(30), x.whole(1), true);
        for (int so = size % 2 == 1 ? 1 : 2; so < size; so += 2) {
            made = x.behind(negated, made);
        }
        return made;
    }

    private static void sizesBelowTwenty() {
        c.about("promise 34, rule 7: if their SIZES together are below 20");
        int[][] sizes = {{1, 1}, {1, 18}, {18, 1}, {9, 10}, {10, 9}, {1, 19}, {19, 1}, {10, 10}, {2, 18}, {1, 20},
            {20, 1}, {11, 10}, {20, 20}, {12, 19}};
        for (int[] two : sizes) {
            x = new StageConveyor();
            int f = ofSize(two[0]);
            int g = ofSize(two[1]);
            c.due(two[0], x.shape(f, 4));
            c.due(two[1], x.shape(g, 4));
            int known = x.count(1);
            int so = over(x.range(0, 3), 12, f, 0, 12, g, 0);
            int made = x.rewrite(so);
            boolean right = two[0] + two[1] < 20;
            c.due(right ? so + 1 : so, made);
            c.due(right ? known + 1 : known, x.count(1));
            c.due(right ? 1 : 0, x.rule(7));
            if (right) {
                c.due(known, x.look(made, 3));
                c.due(two[0] + two[1] + 1, x.shape(known, 4));
            }
        }
        c.about("promise 34, rule 7: g BEHIND f, a new FUNCTION");
        x = new StageConveyor();
        int letters = x.basic(11);
        int real = x.basic(7);
        int so = over(x.stage(x.row(0), 12, x.basic(12), 0), 14, x.basic(24), 0, 12, letters, 0, 12, real, 0);
        int made = x.rewrite(so);
        c.due("1 2 -1 1 3", shape(x.look(made, 3)));
        c.due(1, x.look(made, 6));
        // the same FUNCTION twice makes new ones, too
        int twice = x.rewrite(over(x.range(0, 3), 12, x.basic(0), 0, 12, x.basic(0), 0));
        int again = x.rewrite(over(x.range(0, 3), 12, x.count(1) - 2, 0, 12, x.count(1) - 2, 0));
        c.due(1, x.look(again, 3) > x.look(twice, 3) ? 1 : 0);
    }

    private static String shape(int f) {
        StringBuilder so = new StringBuilder();
        for (int what = 0; what < 5; what++) {
            so.append(what == 0 ? "" : " ").append(x.shape(f, what));
        }
        return so.toString();
    }

    private static void firstFromBelow() {
        c.about("promise 34: from there on upwards, the first neighbours for which a rule holds");
        x = new StageConveyor();
        int nine = ofSize(9);
        int one = x.basic(0);
        int known = x.count(1);
        int p = x.range(0, 3);
        // 9 + 9 are 19 with their BEHIND: a further 1 makes 20
        int made = x.rewrite(over(p, 12, nine, 0, 12, nine, 0, 12, one, 0));
        c.due("12:" + known + ":0 12:" + one + ":0", stages(made));
        c.due(19, x.shape(known, 4));
        c.due(1, x.rule(7));
        // 1 + 9 are 11, and 9 more are 20
        int turned = x.rewrite(over(p, 12, one, 0, 12, nine, 0, 12, nine, 0));
        c.due("12:" + (known + 1) + ":0 12:" + nine + ":0", stages(turned));
        c.due(11, x.shape(known + 1, 4));
        int eight = ofSize(8);
        int before = x.count(1);
        // 1 + 8 are 10, and 9 more are 19: both
        int both = x.rewrite(over(p, 12, one, 0, 12, eight, 0, 12, nine, 0));
        c.due("12:" + (before + 1) + ":0", stages(both));
        c.due(20, x.shape(before + 1, 4));
        c.due(2, x.rule(7));
        c.about("promise 34: the first neighbours may come later");
        int ten = ofSize(10);
        int after = x.count(1);
        int later = x.rewrite(over(p, 12, ten, 0, 12, ten, 0, 12, nine, 0));
        c.due("12:" + ten + ":0 12:" + after + ":0", stages(later));
        c.due(20, x.shape(after, 4));
    }

    private static void untilThereAreNone() {
        c.about("promise 34: again, until there are none; all 39 stages that there can be");
        int[] sorts = {15, 16, 19, 20, 21, 29, 30};
        int[] rules = {0, 1, 3, 4, 2, 8, 5};
        for (int i = 0; i < sorts.length; i++) {
            x = new StageConveyor();
            int so = x.range(0, 9);
            for (int k = 0; k < 39; k++) {
                so = x.stage(so, sorts[i], -1, 2);
            }
            c.due(40, x.look(so, 5));
            int made = x.rewrite(so);
            c.due(40, made);
            c.due(2, x.look(made, 5));
            c.due(sorts[i], x.look(made, 0));
            c.due(sorts[i] == 15 ? 78 : sorts[i] == 16 || sorts[i] == 29 ? 2 : 0, x.look(made, 4));
            // REVERSED twice is CACHED, and CACHED, REVERSED the latter: in turn
            c.due(sorts[i] == 21 ? 19 : 38, x.rule(rules[i]));
            c.due(sorts[i] == 21 ? 19 : sorts[i] == 30 ? 38 : 0, x.rule(5));
        }
        c.about("promise 34: of 39 MAPPED, as many as their SIZES let");
        x = new StageConveyor();
        int so = x.range(0, 3);
        int f = x.basic(0);
        for (int k = 0; k < 39; k++) {
            so = x.stage(so, 12, f, 0);
        }
        int made = x.rewrite(so);
        // 10 of SIZE 1 with 9 BEHIND: 19; with an 11th it would be 20 together
        c.due(9 + 9 + 9 + 8, x.rule(7));
        c.due(40 + 3, made);
        c.due("0 19 19 19 17", sizesOf(made));
        c.due(1, x.equal(so, made, 10, 0, 0));
    }

    private static String sizesOf(int p) {
        StringBuilder so = new StringBuilder();
        for (int at = p; x.look(at, 0) >= 11; at = x.look(at, 1)) {
            so.insert(0, " " + x.shape(x.look(at, 3), 4));
        }
        return "0" + so;
    }

    private static void theFirstSuchRule() {
        c.about("promise 34: what comes of neighbours is the neighbour of the next");
        x = new StageConveyor();
        int p = x.range(0, 9);
        String[] due = {"30:0:0", "21:0:0", "21:0:0", "30:0:0", "20:-1:0", "20:-1:0 21:0:0", "21:0:0 20:-1:0", "30:0:0"};
        int[][] of = {{21, 21, 30}, {30, 30, 21}, {21, 30, 30}, {30, 21, 21}, {30, 20, 30}, {20, 30, 21}, {21, 30, 20},
            {21, 30, 21}};
        String[] used = {"001001000", "000002000", "000000200", "001001000", "000001100", "000000100", "000000100",
            "001000100"};
        for (int i = 0; i < of.length; i++) {
            int so = over(p, of[i][0], -1, 0, of[i][1], -1, 0, of[i][2], -1, 0);
            c.due(due[i], stages(x.rewrite(so)));
            c.due(used[i], Kit.rules(x));
        }
    }

    private static void downToNoStage() {
        c.about("promise 34: down to the first one below that is none");
        x = new StageConveyor();
        int one = x.whole(1);
        int plus = x.basic(30);
        int p = over(x.range(0, 9), 15, 0, 1, 15, 0, 1);
        int[] none = {x.range(0, 9), x.iterate(x.basic(0), one, 3, false), x.iterate(x.basic(26), one, 3, true),
            x.steps(0.0, 1.0, 3), x.row(0), x.row(x.word(1)), x.guard(p, 6, 0), x.guard(p, 7, 9),
            x.both(p, p, 8, 0), x.both(p, p, 9, plus), x.both(p, p, 10, 0)};
        for (int base : none) {
            c.due(base, x.rewrite(base));
            int so = over(base, 16, 0, 3, 16, 0, 2);
            int made = x.rewrite(so);
            c.due(so + 1, made);
            c.due(base, x.look(made, 1));
            c.due("16:0:2", stages(made));
            c.due("010000000", Kit.rules(x));
        }
        c.about("promise 34: not those above p");
        int q = over(x.range(0, 9), 15, 0, 1);
        over(q, 15, 0, 1, 15, 0, 1);
        c.due(q, x.rewrite(q));
    }

    private static void whatComesOfIt() {
        c.about("promise 34: new PIPELINES, from below on: the last one's number");
        x = new StageConveyor();
        int p = x.range(0, 9);
        int so = over(p, 16, 0, 9, 21, 0, 0, 15, 0, 1, 15, 0, 2, 19, 0, 0);
        c.due(5, so);
        int made = x.rewrite(so);
        c.due(9, made);
        c.due(10, x.count(3));
        int[] sorts = {16, 21, 15, 19};
        for (int i = 0; i < 4; i++) {
            c.due(sorts[i], x.look(6 + i, 0));
            c.due(i == 0 ? p : 5 + i, x.look(6 + i, 1));
            c.due(2 + i, x.look(6 + i, 5));
            c.due(-1, x.look(6 + i, 2));
        }
        // p's own are left as they were
        c.due("16:0:9 21:0:0 15:0:1 15:0:2 19:0:0", stages(so));
        c.about("promise 34: one building");
        c.due(7, x.count(7));
        c.due(4, x.undo());
        c.due(6, x.count(3));
    }

    private static void asBefore() {
        c.about("promise 34: what comes of it gives the same");
        x = new StageConveyor();
        int f = x.basic(2);
        int g = x.basic(0);
        int p = x.row(Kit.longs(x, 3, 1, 2, 3, 1));
        int[] of = {over(p, 15, 0, 1, 15, 0, 1), over(p, 16, 0, 4, 16, 0, 3), over(p, 21, 0, 0, 21, 0, 0),
            over(p, 19, 0, 0, 19, 0, 0), over(p, 20, -1, 0, 20, -1, 0), over(p, 30, 0, 0, 21, 0, 0),
            over(p, 20, -1, 0, 30, 0, 0), over(p, 12, f, 0, 12, g, 0), over(p, 29, 0, 5, 29, 0, 9),
            over(p, 29, 0, 4, 29, 0, 9)};
        for (int so : of) {
            int made = x.rewrite(so);
            c.due(1, made != so ? 1 : 0);
            c.due(1, x.equal(so, made, 10, 0, 0));
        }
    }

    private static void noRuleHolds() {
        c.about("promise 34: p itself, and nothing changes, if no rule holds");
        x = new StageConveyor();
        int p = x.range(0, 9);
        int words = x.row(Kit.word(x, "ab"));
        int one = over(words, 16, 0, 3);
        int two = over(p, 16, 0, 3, 15, 0, 1);
        x.rewrite(over(p, 15, 0, 3, 15, 0, 1));
        c.due("100000000", Kit.rules(x));
        String before = Kit.besidesRules(x);
        int[] same = {p, one, two};
        for (int so : same) {
            c.due(so, x.rewrite(so));
            c.due("000000000", Kit.rules(x));
        }
        c.due(before, Kit.besidesRules(x));
        c.due(0, x.look(one, 8));
        c.about("promise 34: that needs no room");
        x = new StageConveyor();
        p = x.range(0, 9);
        int so = over(p, 16, 0, 3, 15, 0, 1, 12, x.basic(0), 0);
        while (x.count(3) < 80) {
            x.range(0, 1);
        }
        while (x.count(1) < 60) {
            x.basic(0);
        }
        c.due(p, x.rewrite(p));
        c.due(so, x.rewrite(so));
    }

    private static void roomForPipelines() {
        c.about("promise 34: -4, 80 PIPELINES are there");
        for (int room = 1; room <= 4; room++) {
            x = new StageConveyor();
            int p = x.range(0, 9);
            int so = over(p, 16, 0, 9, 15, 0, 1, 15, 0, 2, 19, 0, 0);
            while (x.count(3) < 80 - room) {
                x.range(0, 1);
            }
            // three come of it
            c.due(room < 3 ? -4 : 80 - room + 2, x.rewrite(so));
            c.due(room < 3 ? 80 - room : 83 - room, x.count(3));
            c.due(room < 3 ? "000000000" : "100000000", Kit.rules(x));
            if (room >= 3) {
                c.due("16:0:9 15:0:3 19:0:0", stages(82 - room));
                c.due(4, x.undo());
                c.due(80 - room, x.count(3));
            }
        }
    }

    private static void roomForFunctions() {
        c.about("promise 34: -4, 60 FUNCTIONS are there");
        for (int room = 0; room <= 3; room++) {
            x = new StageConveyor();
            int f = x.basic(0);
            int so = over(x.range(0, 9), 12, f, 0, 12, f, 0, 12, f, 0);
            int skips = over(x.range(0, 9), 15, 0, 1, 15, 0, 1);
            while (x.count(1) < 60 - room) {
                x.basic(0);
            }
            int known = x.count(3);
            // two come of it, though one alone is used by what is made
            c.due(room < 2 ? -4 : known, x.rewrite(so));
            c.due(room < 2 ? 60 - room : 62 - room, x.count(1));
            c.due(room < 2 ? known : known + 1, x.count(3));
            c.due(room < 2 ? 0 : 2, x.rule(7));
            if (room >= 2) {
                c.due(61 - room, x.look(known, 3));
                c.due(4, x.undo());
                c.due(60 - room, x.count(1));
            }
            // what makes no FUNCTION needs no room for one
            c.due(known, x.rewrite(skips));
        }
    }

    private static void noPipeline() {
        c.about("promise 34: -1, no such PIPELINE");
        x = new StageConveyor();
        x.rewrite(over(x.range(0, 9), 15, 0, 1, 15, 0, 1));
        int[] none = {-1, 4, 5, 80, Integer.MAX_VALUE, Integer.MIN_VALUE};
        for (int n : none) {
            c.due(-1, x.rewrite(n));
            c.due("100000000", Kit.rules(x));
        }
        c.due(4, x.count(3));
        c.due(3, x.rewrite(3));
    }

    private static void spentByIt() {
        c.about("promise 34: another one was made of p then");
        x = new StageConveyor();
        int words = x.row(Kit.word(x, "abc"));
        int so = over(words, 15, 0, 1, 15, 0, 1);
        c.due(0, x.look(so, 8));
        int made = x.rewrite(so);
        c.due(1, x.look(so, 8));
        c.due(0, x.look(made, 8));
        c.due(0, x.look(made, 7));
        c.due(-5, x.run(so, 0, 0, 0));
        c.due(-5, x.stage(so, 30, 0, 0));
        c.due(-5, x.rewrite(so));
        c.due("[\"c\"]", Kit.all(x, made));
        c.due(1, x.look(made, 8));
        c.about("promises 34, 38: undo() gives p back");
        c.due(4, x.undo());
        c.due(0, x.look(so, 8));
        c.due(1, x.look(words, 8));
        c.due("[\"c\"]", Kit.all(x, so));
        c.about("promise 34: one that RESTARTS isn't SPENT");
        int again = over(x.range(0, 3), 15, 0, 1, 15, 0, 1);
        int other = x.rewrite(again);
        c.due(0, x.look(again, 8));
        c.due(1, x.look(other, 7));
        c.due(other + 1, x.rewrite(again));
        c.due("[2]", Kit.all(x, again));
        c.about("promise 34: -5, SPENT by a RUN, by another stage, by a failed RUN");
        int once = over(x.row(Kit.word(x, "abc")), 15, 0, 1, 15, 0, 1);
        c.due(0, x.run(once, 0, 0, 0));
        c.due(-5, x.rewrite(once));
        int below = over(x.row(Kit.word(x, "abc")), 15, 0, 1, 15, 0, 1);
        x.stage(below, 30, 0, 0);
        c.due(-5, x.rewrite(below));
        int failing = over(x.guard(x.row(Kit.word(x, "abc")), 7, 0), 15, 0, 1, 15, 0, 1);
        c.due(-106, x.run(failing, 0, 0, 0));
        c.due(-5, x.rewrite(failing));
    }

    private static void used() {
        c.about("promise 35: k 0 to 8, else -2");
        x = new StageConveyor();
        int[] none = {-1, 9, 10, 80, Integer.MAX_VALUE, Integer.MIN_VALUE};
        for (int k : none) {
            c.due(-2, x.rule(k));
        }
        c.about("promise 35: 0 before");
        c.due("000000000", Kit.rules(x));
        c.about("promise 35: in the latest rewrite() that wasn't refused");
        int p = x.range(0, 9);
        x.rewrite(over(p, 15, 0, 1, 15, 0, 1, 15, 0, 1));
        c.due("200000000", Kit.rules(x));
        x.rewrite(99);
        c.due("200000000", Kit.rules(x));
        x.rewrite(over(p, 29, 0, 1, 29, 0, 1));
        c.due("000000001", Kit.rules(x));
        for (int k : none) {
            c.due(-2, x.rule(k));
        }
        x.run(p, 0, 0, 0);
        x.undo();
        c.due("000000001", Kit.rules(x));
    }
}
