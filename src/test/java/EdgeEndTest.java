/** The edges of ENDS, promise 20: of nothing, of one, as far as is needed, and what is refused. */
public final class EdgeEndTest {
    private static final Check c = new Check("EdgeEndTest");
    private static final long MAX = Long.MAX_VALUE;
    private static final long MIN = Long.MIN_VALUE;
    private static StageConveyor x;

    public static void main(String[] args) {
        ofNothing();
        ofEachKind();
        endedIsNotAsked();
        counting();
        sumOfLongs();
        sumOfReals();
        leastAndGreatest();
        first();
        holding();
        folding();
        listing();
        numbered();
        calling();
        differing();
        grouping();
        parting();
        joining();
        summary();
        greatest();
        last();
        fortyFirst();
        madeWhenAllHaveCome();
        tooLarge();
        noEnd();
        refusedFunctions();
        amounts();
        unused();
        fitElement();
        fitFunctions();
        fitAnswers();
        fitFolding();
        answers();
        c.finish();
    }

    private static String run(int p, int end, int f, int a) {
        return Kit.run(x, p, end, f, a);
    }

    private static int longs(long... v) {
        return x.row(Kit.longs(x, v));
    }

    private static void ofNothing() {
        String[] due = {"0", "0", "0.0", "none", "none", "none", "0", "1", "1", "7", "[]", "none", "0", "[]", "[]",
            "([], [])", "\"\"", "[0, 0]", "[]", "none"};
        for (int end = 0; end < 20; end++) {
            c.about("END " + end + " of nothing");
            x = new StageConveyor();
            int f = x.basic(5);
            int first = x.basic(49);
            int seven = x.whole(7);
            int p = x.row(0);
            int uses = end == 9 ? first : end == 3 || end == 4 || end == 18 ? -1 : f;
            String answer = run(p, end, uses, end == 18 ? 1 : seven);
            c.due(due[end].equals("none") ? "fails 10 at -1 given 0" : due[end], answer);
            c.due(end == 17 ? 2 : 0, x.count(4));
            c.due(0, x.count(5));
        }
    }

    /** The ENDS that take whatever comes take each KIND. */
    private static void ofEachKind() {
        for (int kind = 0; kind < 5; kind++) {
            x = new StageConveyor();
            int one = x.whole(1);
            int[] values = {one, x.real(0.5), x.word(1), x.pair(one, one), x.cons(one, 0)};
            String v = new String[] {"1", "0.5", "\"a\"", "(1, 1)", "[1]"}[kind];
            int f = x.basic(24);
            int itself = x.bind(x.basic(49), 0, true);
            int p = Kit.row(x, values[kind]);
            String holds = kind == 0 ? "0" : "1";
            String[] due = {"1", "", "", v, v, v, holds, holds, kind == 0 ? "1" : "0", "", "[" + v + "]", v, "1",
                "[" + v + "]", "[(" + kind + ", [" + v + "])]",
                kind == 0 ? "([], [1])" : "([" + v + "], [])", "", "", "[" + v + "]", v};
            for (int end = 0; end < 20; end++) {
                c.about("END " + end + " of KIND " + kind);
                if (!due[end].isEmpty()) {
                    int uses = end == 3 || end == 4 || end == 18 ? -1 : f;
                    c.due(due[end], run(p, end, uses, end == 18 ? 1 : 0));
                }
            }
            c.about("END 14 of KIND " + kind + ", and what f gives");
            c.due("[(" + v + ", [" + v + "])]", run(p, 14, itself, 0));
            c.about("END 9 of KIND " + kind);
            c.due(v, run(p, 9, x.basic(50), 0));
        }
    }

    private static void endedIsNotAsked() {
        int[] asked = {3, 3, 3, 3, 3, 1, 1, 3, 1, 3, 3, 2, 3, 3, 3, 3, 3, 3, 3, 3};
        for (int end = 0; end < 20; end++) {
            if (end == 2 || end == 16) {
                continue;
            }
            c.about("END " + end + ": asks for all, and no further behind its end");
            x = new StageConveyor();
            x.whole(1);
            int even = x.basic(5);
            int first = x.basic(49);
            int same = x.basic(1);
            int source = longs(2, 4, 1, 6, 8);
            int ended = x.stage(source, 17, even, 0);
            int f = end == 3 || end == 4 || end == 18 ? -1 : end == 9 ? first : same;
            c.due(1, x.run(ended, end, f, 1) >= 0 ? 1 : 0);
            c.due(asked[end], x.given(source));
            c.due(asked[end], x.calls(even));
            c.due(asked[end] == 3 ? 2 : asked[end], x.given(ended));
        }
    }

    private static void counting() {
        c.about("END 0: how many");
        x = new StageConveyor();
        c.due("1", run(x.range(0, 1), 0, 0, 0));
        c.due("600", run(x.range(0, 600), 0, 0, 0));
    }

    private static void sumOfLongs() {
        c.about("END 1: the sum of LONGS, wraps");
        x = new StageConveyor();
        c.due("5", run(longs(5), 1, 0, 0));
        c.due("-9223372036854775808", run(longs(MAX, 1), 1, 0, 0));
        c.due("9223372036854775807", run(longs(MIN, -1), 1, 0, 0));
        c.due("0", run(longs(MIN, MIN), 1, 0, 0));
        c.about("END 1: another FAILS KIND");
        int one = x.whole(1);
        int[] others = {x.real(1.0), x.word(1), x.pair(0, 0), 0};
        for (int other : others) {
            int p = Kit.row(x, one, other, one);
            c.due("fails 1 at -1 given 0", run(p, 1, 0, 0));
            c.due(2, x.given(p));
        }
    }

    private static void sumOfReals() {
        c.about("END 2: the sum of REALS from 0.0 on, in order");
        x = new StageConveyor();
        int big = x.real(1e16);
        int one = x.real(1.0);
        int less = x.real(-1e16);
        c.due("1.0", run(Kit.row(x, one), 2, 0, 0));
        c.due("0.0", run(Kit.row(x, big, one, less), 2, 0, 0));
        c.due("1.0", run(Kit.row(x, big, less, one), 2, 0, 0));
        c.about("END 2: another FAILS KIND");
        int[] others = {x.whole(1), x.word(1), x.pair(0, 0), 0};
        for (int other : others) {
            int p = Kit.row(x, one, other, one);
            c.due("fails 1 at -1 given 0", run(p, 2, 0, 0));
            c.due(2, x.given(p));
        }
        c.about("END 2: endless FAILS RANGE");
        int most = x.real(Double.MAX_VALUE);
        int half = x.real(0x1p970);
        int under = x.real(Math.nextDown(0x1p970));
        c.due(Double.toString(Double.MAX_VALUE), run(Kit.row(x, most, under), 2, 0, 0));
        c.due("fails 5 at -1 given 0", run(Kit.row(x, most, half), 2, 0, 0));
        int least = x.real(-Double.MAX_VALUE);
        int p = Kit.row(x, least, least, most);
        c.due("fails 5 at -1 given 0", run(p, 2, 0, 0));
        c.due(2, x.given(p));
        c.due(Double.toString(-Double.MAX_VALUE), run(Kit.row(x, least, most, least), 2, 0, 0));
    }

    private static void leastAndGreatest() {
        c.about("ENDS 3, 4: the least, the greatest");
        x = new StageConveyor();
        c.due("5", run(longs(5), 3, -1, 0));
        c.due("5", run(longs(5), 4, -1, 0));
        int p = longs(MIN, MAX);
        int q = longs(MAX, MIN);
        c.due("-9223372036854775808", run(p, 3, -1, 0));
        c.due("-9223372036854775808", run(q, 3, -1, 0));
        c.due("9223372036854775807", run(p, 4, -1, 0));
        c.due("9223372036854775807", run(q, 4, -1, 0));
        c.due(2, x.given(q));
        c.about("ENDS 3, 4: of those that are alike the first");
        int size = x.key(x.basic(1), false);
        int r = longs(-2, 1, 2, -1, 2);
        c.due("1", run(r, 3, size, 0));
        c.due("-2", run(r, 4, size, 0));
        c.due(5, x.count(5));
    }

    private static void first() {
        c.about("END 5: the first, asking for no further one");
        x = new StageConveyor();
        int p = x.range(5, 8);
        c.due("5", run(p, 5, 0, 0));
        c.due(1, x.given(p));
        c.due("5", run(x.guard(p, 7, 1), 5, 0, 0));
        int none = x.guard(p, 7, 0);
        c.due("fails 6 at " + none + " given 0", run(none, 5, 0, 0));
    }

    private static void holding() {
        c.about("ENDS 6, 7, 8: asking no further than needed");
        x = new StageConveyor();
        int even = x.basic(5);
        int[] of = {longs(2, 1, 1), longs(1, 2, 1), longs(1, 1, 2), longs(1, 1, 1), longs(2, 2, 2)};
        String[][] due = {{"1", "0", "0"}, {"1", "0", "0"}, {"1", "0", "0"}, {"0", "0", "1"}, {"1", "1", "0"}};
        int[][] asked = {{1, 2, 1}, {2, 1, 2}, {3, 1, 3}, {3, 1, 3}, {1, 3, 1}};
        for (int i = 0; i < of.length; i++) {
            for (int end = 6; end <= 8; end++) {
                c.due(due[i][end - 6], run(of[i], end, even, 0));
                c.due(asked[i][end - 6], x.given(of[i]));
                c.due(asked[i][end - 6], x.calls(even));
            }
        }
    }

    private static void folding() {
        c.about("END 9: f of VALUE number a and the first one, then of that and the next");
        x = new StageConveyor();
        int minus = x.basic(31);
        int ten = x.whole(10);
        c.due("9", run(longs(1), 9, minus, ten));
        c.due("7", run(longs(1, 2), 9, minus, ten));
        c.due(311, x.argument(0, false));
        c.due(32, x.argument(0, true));
        c.due(280, x.argument(1, false));
        c.due(63, x.argument(1, true));
        c.due("9223372036854775807", run(longs(1), 9, minus, x.whole(MIN)));
    }

    private static void listing() {
        c.about("END 10: the LIST of all");
        x = new StageConveyor();
        c.due("[5]", run(longs(5), 10, 0, 0));
        c.due(2, x.count(4));
        c.due("[5, 5]", run(longs(5, 5), 10, 0, 0));
        c.due(4, x.count(4));
    }

    private static void numbered() {
        c.about("END 11: number a from 0 on, none FAILS NONE, asking no further");
        x = new StageConveyor();
        int p = x.range(5, 8);
        for (int a = 0; a < 5; a++) {
            c.due(a < 3 ? Integer.toString(5 + a) : "fails 10 at -1 given 0", run(p, 11, 0, a));
            c.due(a < 3 ? a + 1 : 3, x.given(p));
            c.due(a < 3 ? a + 1 : 3, x.count(4));
        }
        c.due("fails 10 at -1 given 0", run(p, 11, 0, 1000));
        int long600 = x.range(0, 1000);
        c.due("599", run(long600, 11, 0, 599));
        c.due("fails 9 at " + long600 + " given 600", run(long600, 11, 0, 600));
        c.due("2", run(x.guard(x.range(0, 9), 7, 3), 11, 0, 2));
    }

    private static void calling() {
        c.about("END 12: f is called for each: how many");
        x = new StageConveyor();
        int p = x.range(0, 3);
        int[] codes = {0, 5, 7, 23, 26};
        for (int code : codes) {
            int f = x.basic(code);
            c.due("3", run(p, 12, f, 0));
            c.due(3, x.calls(f));
        }
        int flaky = x.basic(27);
        c.due("fails 7 at -1 given 0", run(p, 12, flaky, 0));
        c.due(1, x.given(p));
    }

    private static void differing() {
        c.about("END 13: the LIST of those that are SAME as none before");
        x = new StageConveyor();
        c.due("[1]", run(longs(1, 1, 1), 13, 0, 0));
        c.due(4, x.count(4));
        c.due("[1, 2, 3]", run(longs(1, 2, 1, 3, 2, 3), 13, 0, 0));
        c.due(9, x.count(4));
        int one = x.whole(1);
        c.due("[1, 1.0, [1], []]", run(Kit.row(x, one, x.real(1.0), x.cons(one, 0), 0, x.whole(1)), 13, 0, 0));
    }

    private static void grouping() {
        c.about("END 14: in the order in which these come first");
        x = new StageConveyor();
        int rest = x.bind(x.basic(34), x.whole(3), true);
        c.due("[(2, [2])]", run(longs(2), 14, rest, 0));
        c.due(1 + 2 + 1 + 1, x.count(4));
        c.due("[(2, [2, 5]), (0, [3, 0]), (1, [1])]", run(longs(2, 3, 1, 5, 0), 14, rest, 0));
        c.due(5 + 10 + 5 + 3, x.count(4));
        c.due("[(0, [0]), (1, [1]), (2, [2])]", run(longs(0, 1, 2), 14, rest, 0));
    }

    private static void parting() {
        c.about("END 15: those for which f HOLDS, and the others");
        x = new StageConveyor();
        int even = x.basic(5);
        c.due("([2], [])", run(longs(2), 15, even, 0));
        c.due("([], [1])", run(longs(1), 15, even, 0));
        c.due("([2, 4], [1, 3])", run(longs(1, 2, 3, 4), 15, even, 0));
        c.due(4 + 4 + 4, x.count(4));
    }

    private static void joining() {
        c.about("END 16: all WORDS behind one another");
        x = new StageConveyor();
        int none = x.word(0);
        int six = Kit.word(x, "abcdef");
        int seven = Kit.word(x, "ghijklm");
        int full = Kit.word(x, "zyxwvutsrqpo");
        c.due("\"abcdef\"", run(Kit.row(x, six), 16, 0, 0));
        c.due("\"abcdefabcdef\"", run(Kit.row(x, six, six), 16, 0, 0));
        c.due("\"zyxwvutsrqpo\"", run(Kit.row(x, none, full, none), 16, 0, 0));
        c.about("END 16: beyond 12 letters FAILS SIZE");
        int p = Kit.row(x, six, seven, none);
        c.due("fails 4 at -1 given 0", run(p, 16, 0, 0));
        c.due(2, x.given(p));
        c.due("fails 4 at -1 given 0", run(Kit.row(x, full, x.word(1)), 16, 0, 0));
        c.about("END 16: another FAILS KIND");
        int[] others = {x.whole(1), x.real(1.0), x.pair(0, 0), 0};
        for (int other : others) {
            int q = Kit.row(x, six, other, six, six);
            c.due("fails 1 at -1 given 0", run(q, 16, 0, 0));
            c.due(2, x.given(q));
        }
    }

    private static void summary() {
        c.about("END 17: how many, sum, least, greatest one; of none 0 and 0");
        x = new StageConveyor();
        c.due("[1, 5, 5, 5]", run(longs(5), 17, 0, 0));
        c.due(5, x.count(4));
        c.due("[1, -5, -5, -5]", run(longs(-5), 17, 0, 0));
        c.due("[2, -1, -9223372036854775808, 9223372036854775807]", run(longs(MAX, MIN), 17, 0, 0));
        c.due("[2, -2, 9223372036854775807, 9223372036854775807]", run(longs(MAX, MAX), 17, 0, 0));
        c.due("[0, 0]", run(x.range(0, 0), 17, 0, 0));
        c.due(2, x.size(0));
        c.about("END 17: another FAILS KIND");
        int one = x.whole(1);
        int[] others = {x.real(1.0), x.word(1), x.pair(0, 0), 0};
        for (int other : others) {
            int p = Kit.row(x, one, other, one);
            c.due("fails 1 at -1 given 0", run(p, 17, 0, 0));
            c.due(2, x.given(p));
        }
    }

    private static void greatest() {
        c.about("END 18: the LIST of the a greatest, the greatest first");
        x = new StageConveyor();
        int p = x.range(0, 12);
        c.due("[11]", run(p, 18, -1, 1));
        c.due(12 + 1, x.count(4));
        c.due("[11, 10, 9, 8, 7, 6, 5, 4, 3, 2]", run(p, 18, -1, 10));
        c.due(12 + 10, x.count(4));
        int two = x.range(0, 2);
        c.due("[1, 0]", run(two, 18, -1, 10));
        c.due(2 + 2, x.count(4));
        c.due("[1, 0]", run(two, 18, -1, 2));
        c.due("[1]", run(two, 18, -1, 1));
        c.due("[1, 0]", run(two, 18, -1, 3));
        c.about("END 18: those that are alike as they came");
        int size = x.key(x.basic(1), false);
        c.due("[-2, 2, -2, 1]", run(longs(1, -2, -1, 2, -2), 18, size, 4));
    }

    private static void last() {
        c.about("END 19: the last one");
        x = new StageConveyor();
        c.due("5", run(longs(5), 19, 0, 0));
        c.due("7", run(longs(5, 6, 7), 19, 0, 0));
        int failing = x.guard(x.range(0, 3), 7, 2);
        c.due("fails 6 at " + failing + " given 2", run(failing, 19, 0, 0));
    }

    private static void fortyFirst() {
        c.about("ENDS 10, 13, 14, 15: a 41st isn't put into a LIST, FAILS SIZE then");
        x = new StageConveyor();
        int forty = x.range(0, 40);
        int more = x.range(0, 45);
        int same = x.bind(x.basic(49), x.whole(1), false);
        int never = x.bind(x.basic(49), x.whole(0), false);
        int itself = x.basic(1);
        c.due(4, x.run(forty, 10, 0, 0));
        c.due(80, x.count(4));
        c.due(4, x.run(forty, 13, 0, 0));
        c.due(4, x.run(forty, 14, same, 0));
        c.due(3, x.run(forty, 15, same, 0));
        c.due(3, x.run(forty, 15, never, 0));
        int[][] failing = {{10, 0}, {13, 0}, {14, same}, {14, itself}, {15, same}, {15, never}};
        for (int[] of : failing) {
            c.due("fails 4 at -1 given 0", run(more, of[0], of[1], 0));
            c.due(41, x.given(more));
            int calls = of[0] < 14 ? 0 : of[1] == itself ? 41 : 82;
            c.due(41 + calls, x.count(4));
        }
        c.about("END 13: one that was there already isn't put");
        int twice = x.both(forty, forty, 8, 0);
        c.due(4, x.run(twice, 13, 0, 0));
        c.due(120, x.count(4));
        c.about("END 14: each LIST has room for 40");
        int rest = x.bind(x.basic(34), x.whole(2), true);
        c.due(4, x.run(x.range(0, 80), 14, rest, 0));
        c.due("fails 4 at -1 given 0", run(x.range(0, 82), 14, rest, 0));
        c.about("END 15: each LIST has room for 40");
        c.due(3, x.run(x.range(0, 80), 15, x.basic(5), 0));
        c.due("fails 4 at -1 given 0", run(x.range(0, 81), 15, x.basic(5), 0));
        c.due("fails 4 at -1 given 0", run(x.range(1, 83), 15, x.basic(5), 0));
    }

    private static void madeWhenAllHaveCome() {
        c.about("ENDS: LISTS are made when all have come");
        x = new StageConveyor();
        int even = x.basic(5);
        int[] ends = {10, 13, 14, 15, 17, 18};
        int failing = x.guard(x.range(0, 9), 7, 5);
        for (int end : ends) {
            c.due("fails 6 at " + failing + " given 5", run(failing, end, end == 18 ? -1 : even, 1));
            c.due(end == 14 || end == 15 ? 10 : 5, x.count(4));
        }
    }

    private static void tooLarge() {
        c.about("END 10: a WEIGHT above 100 FAILS SIZE, behind its STEPS");
        x = new StageConveyor();
        int pairs = x.stage(x.range(0, 34), 24, 0, 0);
        c.due(4, x.run(pairs, 10, 0, 0));
        c.due(33, x.size(0));
        int more = x.stage(x.range(0, 35), 24, 0, 0);
        c.due("fails 4 at -1 given 0", run(more, 10, 0, 0));
        c.due(35 + 34, x.count(4));
        c.due("fails 4 at -1 given 0", run(more, 13, 0, 0));
        c.due(35 + 34, x.count(4));
        c.about("END 15: a PAIR with a WEIGHT above 100 FAILS SIZE");
        int even = x.behind(x.basic(5), x.basic(15));
        c.due(3, x.run(x.stage(x.range(0, 33), 24, 0, 0), 15, even, 0));
        c.due("fails 4 at -1 given 0", run(x.stage(x.range(0, 34), 24, 0, 0), 15, even, 0));
        c.due(34 + 33 * 3 + 33, x.count(4));
        c.about("END 15: the first LIST, the second, the PAIR");
        int below = x.behind(x.bind(x.basic(35), x.whole(34), true), x.basic(15));
        c.due("fails 4 at -1 given 0", run(x.stage(x.range(0, 39), 24, 0, 0), 15, below, 0));
        c.due(39 + 38 * 4 + 34, x.count(4));
        c.about("END 18: a WEIGHT above 100 FAILS SIZE");
        x = new StageConveyor();
        int heavy = x.cons(0, Kit.heavy(x, 49));
        int p = x.both(Kit.only(x, heavy), Kit.only(x, heavy), 8, 0);
        c.due("fails 4 at -1 given 0", run(p, 18, -1, 2));
        c.due(4, x.count(4));
        int q = x.both(Kit.only(x, heavy), Kit.only(x, heavy), 8, 0);
        c.due(4, x.run(q, 18, -1, 1));
        c.about("END 14: a PAIR that is TOO LARGE");
        x = new StageConveyor();
        int deep = Kit.deep(x, 9);
        int itself = x.bind(x.basic(49), 0, true);
        // the LIST of it is 10 deep, and the PAIR with that 11
        c.due("fails 4 at -1 given 0", run(Kit.only(x, deep), 14, itself, 0));
        c.due(1 + 2 + 1, x.count(4));
        c.about("END 14: the LISTS in the PAIRS first, each with its PAIR");
        int two = x.both(Kit.only(x, deep), Kit.only(x, 0), 8, 0);
        c.due("fails 4 at -1 given 0", run(two, 14, itself, 0));
        c.due(2 + 4 + 1, x.count(4));
        int turned = x.both(Kit.only(x, 0), Kit.only(x, deep), 8, 0);
        c.due("fails 4 at -1 given 0", run(turned, 14, itself, 0));
        c.due(2 + 4 + 2, x.count(4));
        c.about("END 10: a DEPTH above 10 FAILS SIZE");
        c.due(4, x.run(Kit.only(x, deep), 10, 0, 0));
        int ten = x.pair(deep, 0);
        c.due("fails 4 at -1 given 0", run(Kit.only(x, ten), 10, 0, 0));
        c.due(3, x.run(Kit.only(x, ten), 5, 0, 0));
    }

    private static void noEnd() {
        c.about("promise 20: -1, no such PIPELINE; -2, no such END");
        x = new StageConveyor();
        int p = x.range(0, 3);
        int[] none = {-1, 1, 2, 80, Integer.MAX_VALUE, Integer.MIN_VALUE};
        for (int n : none) {
            c.due(-1, x.run(n, 0, 0, 0));
        }
        int[] ends = {-1, 20, 21, 30, Integer.MAX_VALUE, Integer.MIN_VALUE};
        for (int end : ends) {
            c.due(-2, x.run(p, end, 0, 0));
        }
        c.due(-1, x.kind(0));
        c.due(0, x.count(6));
        c.due(0, x.run(p, 0, 0, 0));
        c.due(0, x.run(p, 19, 0, 0));
    }

    private static void refusedFunctions() {
        int[] ends = {6, 7, 8, 9, 12, 14, 15};
        for (int end : ends) {
            c.about("END " + end + ": -2, no such FUNCTION, or not of as many arguments");
            x = new StageConveyor();
            int seven = x.whole(7);
            int one = x.basic(0);
            int two = x.basic(30);
            int p = x.range(0, 3);
            int[] none = {-1, -2, 2, 3, 60, Integer.MAX_VALUE, Integer.MIN_VALUE};
            for (int f : none) {
                c.due(-2, x.run(p, end, f, seven));
            }
            c.due(-2, x.run(p, end, end == 9 ? one : two, seven));
            c.due(0, x.count(6));
            c.due(1, x.run(p, end, end == 9 ? two : one, seven) >= 0 ? 1 : 0);
        }
    }

    private static void amounts() {
        c.about("END 11: a from 0 to 1000");
        x = new StageConveyor();
        int plus = x.basic(49);
        int last = x.whole(7);
        int p = x.range(0, 3);
        int[] out = {-1, 1001, Integer.MAX_VALUE, Integer.MIN_VALUE};
        for (int a : out) {
            c.due(-2, x.run(p, 11, 0, a));
        }
        c.due(0, x.run(p, 11, 0, 0));
        c.due(-110, x.run(p, 11, 0, 1000));
        c.about("END 18: a from 1 to 10");
        int[] not = {0, 11, -1, Integer.MAX_VALUE, Integer.MIN_VALUE};
        for (int a : not) {
            c.due(-2, x.run(p, 18, -1, a));
        }
        c.due(4, x.run(p, 18, -1, 1));
        c.due(4, x.run(p, 18, -1, 10));
        c.about("END 9: VALUE number a");
        int[] none = {-1, 2, 3, 60, Integer.MAX_VALUE, Integer.MIN_VALUE};
        for (int a : none) {
            c.due(-2, x.run(p, 9, plus, a));
        }
        c.due(4, x.run(p, 9, plus, 0));
        c.due(0, x.run(p, 9, plus, last));
    }

    private static void unused() {
        int[] wild = {Integer.MIN_VALUE, -3, 20000, Integer.MAX_VALUE};
        for (int end = 0; end < 20; end++) {
            c.about("END " + end + ": f and a are looked at where they are used alone");
            x = new StageConveyor();
            boolean usesF = end == 3 || end == 4 || end >= 6 && end <= 9 || end == 12 || end == 14 || end == 15
                    || end == 18;
            boolean usesA = end == 9 || end == 11 || end == 18;
            x.whole(1);
            int f = end == 9 ? x.basic(49) : end == 3 || end == 4 || end == 18 ? -1 : x.basic(24);
            int p = end == 2 ? x.steps(0.0, 1.0, 3) : end == 16 ? x.row(x.cons(x.word(1), 0)) : x.range(0, 3);
            for (int n : wild) {
                int byA = x.run(p, end, f, n);
                c.due(usesA ? 1 : 0, byA == -2 ? 1 : 0);
                c.due(usesA ? 0 : 1, byA >= 0 ? 1 : 0);
                int byF = x.run(p, end, n, 1);
                c.due(usesF ? 1 : 0, byF == -2 ? 1 : 0);
                c.due(usesF ? 0 : 1, byF >= 0 ? 1 : 0);
                c.due(byA, x.foretell(p, end, f, n));
                c.due(usesA ? -2 : 1, x.equal(p, p, end, f, n));
            }
        }
    }

    /** One PIPELINE of each KIND, ANY the last. */
    private static int[] sources() {
        int longs = x.range(0, 2);
        int any = x.row(0);
        return new int[] {longs, x.steps(0.0, 1.0, 2), x.stage(any, 12, x.basic(12), 0), x.stage(longs, 24, 0, 0),
            x.stage(longs, 22, 0, 1), any};
    }

    private static void fitElement() {
        c.about("KINDS must FIT: the element with LONG (1, 17), REAL (2), WORD (16)");
        x = new StageConveyor();
        int[] of = sources();
        int[][] ends = {{1, 0}, {17, 0}, {2, 1}, {16, 2}};
        for (int kind = 0; kind < 6; kind++) {
            for (int[] end : ends) {
                boolean right = kind == end[1] || kind == 5;
                int answer = x.run(of[kind], end[0], 0, 0);
                c.due(right ? 0 : 1, answer == -3 ? 1 : 0);
                c.due(right ? 1 : 0, answer >= 0 ? 1 : 0);
            }
            int[] whatever = {0, 5, 10, 11, 13, 19};
            for (int end : whatever) {
                c.due(0, x.run(of[kind], end, 0, 0) == -3 ? 1 : 0);
            }
            int[] byOrder = {3, 4, 18};
            for (int end : byOrder) {
                c.due(0, x.run(of[kind], end, -1, 1) == -3 ? 1 : 0);
            }
        }
    }

    private static void fitFunctions() {
        int[] toLong = {4, 8, 11, -1, 18, 24};
        int[] ends = {6, 7, 8, 12, 14, 15};
        for (int asked = 0; asked < 6; asked++) {
            if (toLong[asked] < 0) {
                continue;
            }
            c.about("KINDS must FIT: the element with what f asks for, KIND " + asked);
            x = new StageConveyor();
            int[] of = sources();
            int f = x.basic(toLong[asked]);
            for (int kind = 0; kind < 6; kind++) {
                boolean right = asked == 5 || kind == 5 || kind == asked;
                for (int end : ends) {
                    int answer = x.run(of[kind], end, f, 0);
                    c.due(right ? 0 : 1, answer == -3 ? 1 : 0);
                }
            }
        }
    }

    private static void fitAnswers() {
        c.about("KINDS must FIT: an answer of f of 6, 7, 8, 15 with LONG");
        x = new StageConveyor();
        int any = x.row(0);
        int[] answers = {x.basic(24), x.basic(7), x.basic(12), x.basic(26), x.basic(23), x.basic(27)};
        int[] asking = {6, 7, 8, 15};
        for (int kind = 0; kind < 6; kind++) {
            boolean right = kind == 0 || kind == 5;
            for (int end : asking) {
                c.due(right ? 0 : 1, x.run(any, end, answers[kind], 0) == -3 ? 1 : 0);
            }
            // of the others any answer will do
            c.due(0, x.run(any, 12, answers[kind], 0));
            c.due(4, x.run(any, 14, answers[kind], 0));
        }
    }

    private static void fitFolding() {
        c.about("KINDS must FIT: of 9 the second argument with the element");
        x = new StageConveyor();
        int[] of = sources();
        int element = x.basic(48);
        int list = x.behind(x.basic(23), element);
        int one = x.whole(1);
        int[] values = {one, x.real(1.0), x.word(1), x.pair(0, 0), 0};
        for (int kind = 0; kind < 6; kind++) {
            boolean right = kind == 0 || kind == 5;
            c.due(right ? 0 : 1, x.run(of[kind], 9, list, 0) == -3 ? 1 : 0);
        }
        c.about("KINDS must FIT: of 9 the first with the VALUE's KIND");
        for (int kind = 0; kind < 5; kind++) {
            c.due(kind == 4 ? 0 : 1, x.run(of[0], 9, list, values[kind]) == -3 ? 1 : 0);
        }
        c.about("KINDS must FIT: of 9 the first with its answer");
        c.due(-3, x.run(of[1], 9, x.basic(41), values[1]));
        c.due(-3, x.run(of[4], 9, x.behind(x.basic(18), x.basic(47)), 0));
        c.due(4, x.run(of[4], 9, x.basic(47), 0));
        c.due(-103, x.run(of[0], 9, element, 0));
    }

    private static void answers() {
        c.about("promise 20: the KIND of its RESULT");
        x = new StageConveyor();
        int one = x.whole(1);
        int[] values = {one, x.real(1.0), x.word(1), x.pair(0, 0), 0};
        for (int kind = 0; kind < 5; kind++) {
            int p = Kit.row(x, values[kind]);
            c.due(kind, x.run(p, 5, 0, 0));
            c.due(kind, x.kind(0));
            c.due(kind, x.foretell(p, 5, 0, 0));
        }
        c.about("promise 20: or -100 less the failure's number");
        c.due(-110, x.run(x.row(0), 5, 0, 0));
        c.due(10, x.failure(0));
    }
}
