/** The edges of stages, promise 19: nothing, one, just enough, one more, and what is refused. */
public final class EdgeStageTest {
    private static final Check c = new Check("EdgeStageTest");
    private static StageConveyor x;

    public static void main(String[] args) {
        ofNothing();
        endedIsNotAsked();
        kept();
        mapped();
        flat();
        peeked();
        skipped();
        taken();
        whiles();
        froms();
        different();
        sorted();
        reversed();
        window();
        windowTooLarge();
        chunk();
        beside();
        besideTooLarge();
        folded();
        grouped();
        groupOfForty();
        rescued();
        rescuedFromEach();
        rescuedNotFromSteps();
        retried();
        retriedNotFromBelow();
        limited();
        cached();
        kinds();
        rescuedKinds();
        amounts();
        unused();
        refusedFunctions();
        fitElement();
        fitAnswer();
        fitFolded();
        noSort();
        c.finish();
    }

    private static String all(int p) {
        return Kit.all(x, p);
    }

    private static int longs(long... v) {
        return x.row(Kit.longs(x, v));
    }

    /** What f is for a stage that takes one: it gives a LIST for 13, else a LONG. */
    private static int functionFor(int sort) {
        return sort == 20 ? -1 : sort == 25 ? x.basic(30) : sort == 13 ? x.basic(23) : x.basic(0);
    }

    private static void ofNothing() {
        for (int sort = 11; sort <= 30; sort++) {
            c.about("SORT " + sort + " of nothing gives nothing, and calls nothing");
            x = new StageConveyor();
            int one = x.whole(1);
            int f = functionFor(sort);
            int p = x.range(0, 0);
            int q = x.stage(p, sort, f, one);
            c.due(1, q);
            c.due("[]", all(q));
            c.due(0, x.count(4));
            c.due(0, x.count(5));
            c.due(0, x.given(q));
        }
    }

    private static void endedIsNotAsked() {
        for (int sort = 11; sort <= 30; sort++) {
            c.about("SORT " + sort + ": one that has ENDED isn't asked any further");
            x = new StageConveyor();
            int one = x.whole(1);
            int even = x.basic(5);
            int source = longs(2, 4, 1, 6, 8);
            int ended = x.stage(source, 17, even, 0);
            int f = functionFor(sort);
            int a = sort == 29 ? 100 : sort == 16 || sort == 22 || sort == 23 ? 3 : one;
            int s = x.stage(ended, sort, f, a);
            // CHUNK asks once more behind the last one that it gives
            int over = x.stage(s, 23, 0, 10);
            c.due(0, x.run(over, 0, 0, 0));
            c.due(3, x.calls(even));
            c.due(3, x.given(source));
            c.due(2, x.given(ended));
        }
    }

    private static void kept() {
        c.about("KEPT: those for which f HOLDS");
        x = new StageConveyor();
        int even = x.basic(5);
        c.due("[]", all(x.stage(longs(1, 3, 5), 11, even, 0)));
        c.due(3, x.count(5));
        c.due("[2, 4]", all(x.stage(longs(2, 4), 11, even, 0)));
        c.due("[2]", all(x.stage(longs(2, 3), 11, even, 0)));
        c.due("[4]", all(x.stage(longs(3, 4), 11, even, 0)));
        int p = longs(1, 2, 3, 4);
        c.due("2", Kit.run(x, x.stage(p, 11, even, 0), 5, 0, 0));
        c.due(2, x.given(p));
    }

    private static void mapped() {
        c.about("MAPPED: what f gives, its KIND f's");
        x = new StageConveyor();
        c.due("[-5]", all(x.stage(longs(5), 12, x.basic(0), 0)));
        int p = x.range(0, 2);
        int[] codes = {0, 7, 23, 26, 27};
        int[] kinds = {0, 1, 4, 3, 5};
        for (int i = 0; i < codes.length; i++) {
            c.due(kinds[i], x.look(x.stage(p, 12, x.basic(codes[i]), 0), 6));
        }
    }

    private static void flat() {
        c.about("FLAT: the elements of the LIST that f gives, then of the next one");
        x = new StageConveyor();
        int itself = x.bind(x.basic(49), 0, true);
        int two = Kit.longs(x, 1, 2);
        c.due("[]", all(x.stage(Kit.row(x, 0), 13, itself, 0)));
        c.due("[]", all(x.stage(Kit.row(x, 0, 0, 0), 13, itself, 0)));
        c.due("[1, 2]", all(x.stage(Kit.row(x, 0, two, 0), 13, itself, 0)));
        c.due("[1, 2, 1, 2]", all(x.stage(Kit.row(x, two, two), 13, itself, 0)));
        int p = Kit.row(x, two, two);
        int q = x.stage(p, 13, itself, 0);
        c.due("2", Kit.run(x, q, 11, 0, 1));
        c.due(1, x.given(p));
        c.due("1", Kit.run(x, q, 11, 0, 2));
        c.due(2, x.given(p));
        c.about("FLAT: of LISTS of 40");
        x = new StageConveyor();
        itself = x.bind(x.basic(49), 0, true);
        int full = Kit.row(x, Kit.times(x, 0, 40), Kit.times(x, 0, 3));
        c.due("43", Kit.run(x, x.stage(full, 13, itself, 0), 0, 0, 0));
        c.due(6, x.count(4));
        c.about("FLAT: else FAILS KIND");
        x = new StageConveyor();
        itself = x.bind(x.basic(49), 0, true);
        int one = x.whole(1);
        int[] others = {one, x.real(1.0), x.word(1), x.pair(0, 0)};
        for (int other : others) {
            int bad = x.stage(Kit.row(x, x.cons(one, 0), other), 13, itself, 0);
            c.due("fails 1 at " + bad + " given 1", all(bad));
            c.due(4, x.count(5));
        }
    }

    private static void peeked() {
        c.about("PEEKED: itself, whatever f gives");
        x = new StageConveyor();
        int p = x.range(0, 2);
        int[] codes = {0, 6, 7, 23, 26};
        for (int code : codes) {
            int f = x.basic(code);
            int q = x.stage(p, 14, f, 0);
            c.due("[0, 1]", all(q));
            c.due(2, x.calls(f));
            c.due(0, x.look(q, 6));
        }
        int flaky = x.stage(p, 14, x.basic(27), 0);
        c.due("fails 7 at " + flaky + " given 0", all(flaky));
        c.due(1, x.given(p));
    }

    private static void skipped() {
        c.about("SKIPPED: all but the first a");
        x = new StageConveyor();
        int p = x.range(0, 3);
        String[] due = {"[0, 1, 2]", "[1, 2]", "[2]", "[]", "[]"};
        for (int a = 0; a < 5; a++) {
            c.due(due[a], all(x.stage(p, 15, 0, a)));
            c.due(3, x.given(p));
        }
        c.due("[]", all(x.stage(p, 15, 0, 1000)));
        c.about("SKIPPED: which are asked for as it is first asked");
        int two = x.stage(p, 15, 0, 2);
        c.due("2", Kit.run(x, two, 5, 0, 0));
        c.due(3, x.given(p));
        c.due("[]", all(x.stage(two, 16, 0, 0)));
        c.due(0, x.given(p));
        int long599 = x.stage(x.range(0, 1000), 15, 0, 599);
        c.due("599", Kit.run(x, long599, 5, 0, 0));
        int long600 = x.stage(x.range(0, 1000), 15, 0, 600);
        c.due("fails 9 at " + (long600 - 1) + " given 600", Kit.run(x, long600, 5, 0, 0));
        c.about("SKIPPED: a failure in between is the other one's");
        int failing = x.guard(p, 7, 1);
        c.due("fails 6 at " + failing + " given 1", all(x.stage(failing, 15, 0, 2)));
    }

    private static void taken() {
        c.about("TAKEN: the first a; behind these nothing is asked");
        x = new StageConveyor();
        int p = x.range(0, 3);
        String[] due = {"[]", "[0]", "[0, 1]", "[0, 1, 2]", "[0, 1, 2]"};
        for (int a = 0; a < 5; a++) {
            int q = x.stage(p, 16, 0, a);
            c.due(due[a], all(q));
            c.due(a < 3 ? a : 3, x.given(p));
            c.due(a < 3 ? a : 3, x.given(q));
        }
        c.due("[0, 1, 2]", all(x.stage(p, 16, 0, 1000)));
        for (int a = 0; a < 4; a++) {
            // one that FAILS as it is asked behind 3 isn't asked then
            int failing = x.guard(p, 7, 3);
            c.due(due[a], all(x.stage(failing, 16, 0, a)));
        }
        int bad = x.guard(p, 7, 3);
        c.due("fails 6 at " + bad + " given 3", all(x.stage(bad, 16, 0, 4)));
    }

    private static void whiles() {
        c.about("WHILE: up to, without, the first for which f doesn't HOLD");
        x = new StageConveyor();
        int even = x.basic(5);
        int[] of = {longs(1), longs(2), longs(1, 2), longs(2, 1), longs(2, 4), longs(2, 1, 4)};
        String[] due = {"[]", "[2]", "[]", "[2]", "[2, 4]", "[2]"};
        int[] calls = {1, 1, 1, 2, 2, 2};
        for (int i = 0; i < of.length; i++) {
            int w = x.stage(of[i], 17, even, 0);
            c.due(due[i], all(w));
            c.due(calls[i], x.calls(even));
            c.due(calls[i], x.given(of[i]));
        }
        c.about("WHILE: has ENDED then");
        int w = x.stage(longs(2, 1, 4), 17, even, 0);
        c.due("[2, 2]", all(x.both(w, w, 8, 0)));
        c.due("[[2]]", all(x.stage(w, 23, 0, 3)));
        c.due(2, x.calls(even));
    }

    private static void froms() {
        c.about("FROM: from the first on for which f doesn't HOLD");
        x = new StageConveyor();
        int even = x.basic(5);
        int[] of = {longs(1), longs(2), longs(1, 2), longs(2, 1), longs(2, 4), longs(2, 1, 4, 1)};
        String[] due = {"[1]", "[]", "[1, 2]", "[1]", "[]", "[1, 4, 1]"};
        int[] calls = {1, 1, 1, 2, 2, 2};
        for (int i = 0; i < of.length; i++) {
            c.due(due[i], all(x.stage(of[i], 18, even, 0)));
            c.due(calls[i], x.calls(even));
        }
    }

    private static void different() {
        c.about("DIFFERENT: those that are SAME as none that it gave");
        x = new StageConveyor();
        c.due("[1]", all(x.stage(longs(1), 19, 0, 0)));
        c.due("[1]", all(x.stage(longs(1, 1, 1), 19, 0, 0)));
        c.due("[1, 2, 3]", all(x.stage(longs(1, 2, 3), 19, 0, 0)));
        c.due("[1, 2]", all(x.stage(longs(1, 2, 1, 2, 1), 19, 0, 0)));
        int one = x.whole(1);
        int real = x.real(1.0);
        int word = x.word(1);
        int p = Kit.row(x, one, real, word, x.pair(one, real), x.pair(real, one), x.cons(one, 0), 0, 0,
                x.cons(one, 0), x.pair(real, one), word, real, one);
        c.due("[1, 1.0, \"a\", (1, 1.0), (1.0, 1), [1], []]", all(x.stage(p, 19, 0, 0)));
        c.about("DIFFERENT: at the place where it stands");
        int d = x.stage(longs(1, 1, 2), 19, 0, 0);
        c.due("[1, 2, 1, 2]", all(x.both(d, d, 8, 0)));
        // asks no further than needed
        c.due("1", Kit.run(x, d, 5, 0, 0));
        c.due(1, x.given(d - 1));
        c.due("2", Kit.run(x, d, 11, 0, 1));
        c.due(3, x.given(d - 1));
    }

    private static void sorted() {
        c.about("SORTED: as it is first asked it asks for all");
        x = new StageConveyor();
        c.due("[7]", all(x.stage(longs(7), 20, -1, 0)));
        c.due("[1, 2]", all(x.stage(longs(1, 2), 20, -1, 0)));
        c.due("[1, 2]", all(x.stage(longs(2, 1), 20, -1, 0)));
        int p = longs(3, 1, 2);
        int s = x.stage(p, 20, -1, 0);
        c.due("[]", all(x.stage(s, 16, 0, 0)));
        c.due(0, x.given(p));
        c.due("[1]", all(x.stage(s, 16, 0, 1)));
        c.due(3, x.given(p));
        c.due(1, x.given(s));
        c.about("SORTED: twice in one RUN, each at its place");
        c.due("[1, 2, 3, 1, 2, 3]", all(x.both(s, s, 8, 0)));
        c.due("[1, 1, 2, 2, 3, 3]", all(x.both(s, s, 10, 0)));
    }

    private static void reversed() {
        c.about("REVERSED: all, the last one first");
        x = new StageConveyor();
        c.due("[7]", all(x.stage(longs(7), 21, 0, 0)));
        c.due("[2, 1]", all(x.stage(longs(1, 2), 21, 0, 0)));
        int p = longs(3, 1, 2);
        int r = x.stage(p, 21, 0, 0);
        c.due("[3, 1, 2]", all(x.stage(r, 21, 0, 0)));
        c.due("[]", all(x.stage(r, 16, 0, 0)));
        c.due(0, x.given(p));
        c.due("[2]", all(x.stage(r, 16, 0, 1)));
        c.due(3, x.given(p));
        c.due("[2, 2, 1, 1, 3, 3]", all(x.both(r, r, 10, 0)));
    }

    private static void window() {
        c.about("WINDOW: the first a together, nothing if there are fewer than a");
        x = new StageConveyor();
        String[] ofThree = {"[]", "[]", "[]", "[[0, 1, 2]]", "[[0, 1, 2], [1, 2, 3]]"};
        for (int n = 0; n < 5; n++) {
            c.due(ofThree[n], all(x.stage(x.range(0, n), 22, 0, 3)));
        }
        c.due("[[0], [1]]", all(x.stage(x.range(0, 2), 22, 0, 1)));
        c.due("[]", all(x.stage(x.range(0, 9), 22, 0, 10)));
        c.due(9, x.count(4));
        c.due("[[0, 1, 2, 3, 4, 5, 6, 7, 8, 9]]", all(x.stage(x.range(0, 10), 22, 0, 10)));
        c.due("2", Kit.run(x, x.stage(x.range(0, 11), 22, 0, 10), 0, 0, 0));
        c.due(11 + 20, x.count(4));
        c.about("WINDOW: asks for no more than it needs");
        int p = x.range(0, 9);
        int w = x.stage(p, 22, 0, 3);
        c.due("[0, 1, 2]", Kit.run(x, w, 5, 0, 0));
        c.due(3, x.given(p));
        c.due("[1, 2, 3]", Kit.run(x, w, 11, 0, 1));
        c.due(4, x.given(p));
    }

    private static void windowTooLarge() {
        c.about("WINDOW, CHUNK, GROUPED: TOO LARGE FAILS SIZE, its STEPS are taken ahead");
        x = new StageConveyor();
        int heavy = Kit.heavy(x, 49);
        int more = x.cons(0, heavy);
        int kind = x.basic(24);
        int twice = x.both(Kit.only(x, heavy), Kit.only(x, heavy), 8, 0);
        int w = x.stage(twice, 22, 0, 2);
        c.due("99", Kit.run(x, x.stage(w, 12, x.basic(28), 0), 5, 0, 0));
        int[] sorts = {22, 23, 26};
        for (int sort : sorts) {
            int q = x.both(Kit.only(x, more), Kit.only(x, more), 8, 0);
            int s = x.stage(q, sort, kind, 2);
            c.due("fails 4 at " + s + " given 0", all(s));
            c.due(2 + 2 + (sort == 26 ? 2 : 0), x.count(4));
        }
        for (int sort : sorts) {
            x = new StageConveyor();
            kind = x.basic(24);
            int deep = Kit.deep(x, 9);
            int one = x.stage(Kit.only(x, deep), sort, kind, 1);
            c.due(4, x.run(one, 5, 0, 0));
            int deeper = x.stage(Kit.only(x, x.pair(deep, 0)), sort, kind, 1);
            c.due("fails 4 at " + deeper + " given 0", all(deeper));
        }
    }

    private static void chunk() {
        c.about("CHUNK: a together, the last one has what is left, one at least");
        x = new StageConveyor();
        String[] ofTwo = {"[]", "[[0]]", "[[0, 1]]", "[[0, 1], [2]]", "[[0, 1], [2, 3]]", "[[0, 1], [2, 3], [4]]"};
        for (int n = 0; n < 6; n++) {
            c.due(ofTwo[n], all(x.stage(x.range(0, n), 23, 0, 2)));
            c.due(2 * n + (n + 1) / 2, x.count(4));
        }
        c.due("[[0], [1]]", all(x.stage(x.range(0, 2), 23, 0, 1)));
        c.due("[[0, 1, 2, 3, 4, 5, 6, 7, 8]]", all(x.stage(x.range(0, 9), 23, 0, 10)));
        c.due("[[0, 1, 2, 3, 4, 5, 6, 7, 8, 9]]", all(x.stage(x.range(0, 10), 23, 0, 10)));
        c.due("[[0, 1, 2, 3, 4, 5, 6, 7, 8, 9], [10]]", all(x.stage(x.range(0, 11), 23, 0, 10)));
        c.about("CHUNK: asks for no more than it needs");
        int p = x.range(0, 9);
        int k = x.stage(p, 23, 0, 3);
        c.due("[0, 1, 2]", Kit.run(x, k, 5, 0, 0));
        c.due(3, x.given(p));
        c.about("CHUNK: one that has ENDED isn't asked any further");
        int failing = x.stage(x.guard(p, 7, 4), 16, 0, 4);
        c.due("[[0, 1, 2], [3]]", all(x.stage(failing, 23, 0, 3)));
    }

    private static void beside() {
        c.about("BESIDE: each one and the next one");
        x = new StageConveyor();
        String[] due = {"[]", "[]", "[(0, 1)]", "[(0, 1), (1, 2)]"};
        for (int n = 0; n < 4; n++) {
            int b = x.stage(x.range(0, n), 24, 0, 0);
            c.due(due[n], all(b));
            c.due(n + (n > 1 ? n - 1 : 0), x.count(4));
            c.due(3, x.look(b, 6));
        }
        int p = x.range(0, 9);
        c.due("(0, 1)", Kit.run(x, x.stage(p, 24, 0, 0), 5, 0, 0));
        c.due(2, x.given(p));
    }

    private static void besideTooLarge() {
        c.about("BESIDE: TOO LARGE FAILS SIZE");
        x = new StageConveyor();
        int light = Kit.heavy(x, 49);
        int heavy = x.cons(0, light);
        int right = x.stage(x.both(Kit.only(x, light), Kit.only(x, heavy), 8, 0), 24, 0, 0);
        c.due(3, x.run(right, 5, 0, 0));
        int wrong = x.stage(x.both(Kit.only(x, heavy), Kit.only(x, heavy), 8, 0), 24, 0, 0);
        c.due("fails 4 at " + wrong + " given 0", all(wrong));
        c.due(2, x.count(4));
        x = new StageConveyor();
        int nine = Kit.deep(x, 9);
        int ten = x.pair(0, nine);
        c.due(3, x.run(x.stage(x.both(Kit.only(x, nine), Kit.only(x, nine), 8, 0), 24, 0, 0), 5, 0, 0));
        int deep = x.stage(x.both(Kit.only(x, 0), Kit.only(x, ten), 8, 0), 24, 0, 0);
        c.due("fails 4 at " + deep + " given 0", all(deep));
    }

    private static void folded() {
        c.about("FOLDED: f of what it gave before, the VALUE at first, and the element");
        x = new StageConveyor();
        int minus = x.basic(31);
        int ten = x.whole(10);
        c.due("[9]", all(x.stage(longs(1), 25, minus, ten)));
        c.due("[9, 7]", all(x.stage(longs(1, 2), 25, minus, ten)));
        c.due("[9223372036854775807]", all(x.stage(longs(1), 25, minus, x.whole(Long.MIN_VALUE))));
        c.about("FOLDED: at the place where it stands");
        int f = x.stage(longs(1, 2), 25, minus, ten);
        c.due("[9, 7, 9, 7]", all(x.both(f, f, 8, 0)));
        c.about("FOLDED: a failure of f is its own");
        int bad = x.stage(longs(5, 0), 25, x.basic(33), ten);
        c.due("fails 2 at " + bad + " given 1", all(bad));
    }

    private static void grouped() {
        c.about("GROUPED: neighbours together for which f gives the SAME");
        x = new StageConveyor();
        int even = x.basic(5);
        c.due("[[1]]", all(x.stage(longs(1), 26, even, 0)));
        c.due("[[1, 3]]", all(x.stage(longs(1, 3), 26, even, 0)));
        c.due("[[1], [2]]", all(x.stage(longs(1, 2), 26, even, 0)));
        c.due("[[1], [2], [3]]", all(x.stage(longs(1, 2, 3), 26, even, 0)));
        c.due("[[2, 4], [1], [6]]", all(x.stage(longs(2, 4, 1, 6), 26, even, 0)));
        c.due(4, x.calls(even));
        c.about("GROUPED: the SAME, of any KIND");
        int kind = x.basic(27);
        int itself = x.bind(x.basic(49), 0, true);
        int p = Kit.row(x, x.whole(1), x.real(1.0), x.real(1.0), 0, 0, x.pair(0, 0));
        c.due("[[1], [1.0, 1.0], [[], []], [([], [])]]", all(x.stage(p, 26, itself, 0)));
        c.about("GROUPED: one is given as soon as the next begins, or it has ENDED");
        int q = longs(2, 4, 1, 3, 6);
        int g = x.stage(q, 26, even, 0);
        c.due("[2, 4]", Kit.run(x, g, 5, 0, 0));
        c.due(3, x.given(q));
        c.due("[1, 3]", Kit.run(x, g, 11, 0, 1));
        c.due(5, x.given(q));
        int failing = x.guard(q, 7, 3);
        int over = x.stage(failing, 26, even, 0);
        c.due("[2, 4]", Kit.run(x, over, 5, 0, 0));
        c.due("fails 6 at " + failing + " given 3", all(over));
        c.due(1, x.given(over));
        int bad = x.stage(q, 26, kind, 0);
        c.due("fails 7 at " + bad + " given 0", all(bad));
    }

    private static void groupOfForty() {
        c.about("GROUPED: FAILS SIZE as a 41st comes into one");
        x = new StageConveyor();
        int half = x.bind(x.basic(33), x.whole(40), true);
        for (int n = 39; n <= 41; n++) {
            int p = x.range(0, n);
            c.due(n > 40 ? "2" : "1", Kit.run(x, x.stage(p, 26, half, 0), 0, 0, 0));
        }
        int same = x.bind(x.basic(49), x.whole(1), false);
        int p = x.range(0, 40);
        c.due("1", Kit.run(x, x.stage(p, 26, same, 0), 0, 0, 0));
        int q = x.range(0, 45);
        int g = x.stage(q, 26, same, 0);
        c.due("fails 4 at " + g + " given 0", all(g));
        // its f was called, and no LIST made
        c.due(41, x.given(q));
        c.due(41, x.calls(same));
        c.due(41 * 3, x.count(4));
        int later = x.stage(x.range(-3, 45), 26, x.basic(6), 0);
        c.due("fails 4 at " + later + " given 1", all(later));
    }

    private static void rescued() {
        c.about("RESCUED: it gives the VALUE, and has ENDED behind it");
        x = new StageConveyor();
        int nine = x.whole(9);
        int p = x.range(0, 3);
        String[] due = {"[9]", "[0, 9]", "[0, 1, 9]", "[0, 1, 2, 9]", "[0, 1, 2]"};
        for (int k = 0; k < 5; k++) {
            int r = x.stage(x.guard(p, 7, k), 27, 0, nine);
            c.due(due[k], all(r));
            c.due(k < 4 ? k + 1 : 3, x.given(r));
            c.due(0, x.failure(0));
            c.due(-1, x.failure(1));
            c.due(0, x.failure(2));
        }
        int flaky = x.basic(27);
        int mapped = x.stage(p, 12, flaky, 0);
        c.due("[9, 0, 1, 2]", all(x.both(x.stage(mapped, 27, 0, nine), p, 8, 0)));
        c.due(1, x.calls(flaky));
        c.about("RESCUED: the VALUE costs no STEP");
        c.due("[9]", all(x.stage(x.guard(p, 7, 0), 27, 0, nine)));
        c.due(1, x.count(4));
        c.about("RESCUED: its own VALUE goes on as an element");
        int negated = x.basic(0);
        c.due("[-9]", all(x.stage(x.stage(x.guard(p, 7, 0), 27, 0, nine), 12, negated, 0)));
        c.about("RESCUED: a failure above it is none of its own");
        int over = x.stage(x.stage(p, 27, 0, nine), 12, flaky, 0);
        c.due("fails 7 at " + over + " given 0", all(over));
        c.about("RESCUED: one in another");
        int inner = x.stage(x.guard(p, 7, 1), 27, 0, nine);
        int outer = x.stage(x.guard(inner, 7, 2), 27, 0, 0);
        c.due("[0, 9, []]", all(outer));
    }

    private static void rescuedFromEach() {
        c.about("RESCUED: whatever the failure is, but STEPS");
        x = new StageConveyor();
        int nine = x.whole(9);
        int nought = x.whole(0);
        int p = x.range(0, 2);
        int row = Kit.row(x, x.word(0), 0);
        int huge = x.steps(1e9, 1e9, 2);
        int[] failing = {
            x.stage(row, 12, x.basic(0), 0),
            x.stage(p, 12, x.bind(x.basic(33), nought, true), 0),
            x.stage(row, 12, x.basic(14), 0),
            x.stage(p, 29, 0, 0),
            x.stage(huge, 12, x.bind(x.basic(39), x.real(1e308), true), 0),
            x.guard(p, 7, 0),
            x.stage(p, 12, x.basic(27), 0)};
        for (int i = 0; i < failing.length; i++) {
            c.due(-101 - i, x.run(failing[i], 0, 0, 0));
            c.due("[9]", all(x.stage(failing[i], 27, 0, nine)));
        }
    }

    private static void rescuedNotFromSteps() {
        c.about("RESCUED: not by STEPS");
        x = new StageConveyor();
        int nine = x.whole(9);
        int much = x.range(0, 601);
        int r = x.stage(much, 27, 0, nine);
        c.due("fails 9 at " + much + " given 600", Kit.run(x, r, 0, 0, 0));
        c.due(600, x.given(r));
        int enough = x.stage(x.range(0, 600), 27, 0, nine);
        c.due("600", Kit.run(x, enough, 0, 0, 0));
        int twice = x.stage(r, 27, 0, nine);
        c.due("fails 9 at " + much + " given 600", Kit.run(x, twice, 0, 0, 0));
    }

    private static void retried() {
        c.about("RETRIED: made again, a times more at most; the last failure stays");
        x = new StageConveyor();
        int zero = x.bind(x.basic(33), x.whole(0), true);
        int p = x.range(5, 7);
        for (int a = 1; a <= 3; a++) {
            int r = x.stage(p, 28, zero, a);
            c.due("fails 2 at " + r + " given 0", all(r));
            c.due(a + 1, x.calls(zero));
            c.due(1, x.given(p));
        }
        c.about("RETRIED: as MAPPED where nothing FAILS");
        int negated = x.basic(0);
        int right = x.stage(p, 28, negated, 3);
        c.due("[-5, -6]", all(right));
        c.due(2, x.calls(negated));
        c.due(0, x.look(right, 6));
        c.due(1, x.look(x.stage(p, 28, x.basic(7), 3), 6));
        c.about("RETRIED: the call of f as a whole");
        int flaky = x.basic(27);
        int behind = x.behind(flaky, negated);
        c.due("[-5, -6]", all(x.stage(p, 28, behind, 2)));
        c.due(6, x.calls(behind));
        c.due(6, x.calls(negated));
        c.due(6, x.calls(flaky));
        c.about("RETRIED: the last failure stays");
        // FLAKY twice, then x / 0
        int last = x.behind(zero, flaky);
        int r = x.stage(p, 28, last, 2);
        c.due("fails 2 at " + r + " given 0", all(r));
        int two = x.stage(p, 28, last, 1);
        c.due("fails 7 at " + two + " given 0", all(two));
        c.about("RETRIED: STEPS aren't tried again");
        int t = x.stage(x.range(0, 601), 28, negated, 3);
        c.due("fails 9 at " + (t - 1) + " given 300", Kit.run(x, t, 0, 0, 0));
        c.due(300, x.calls(negated));
    }

    private static void retriedNotFromBelow() {
        c.about("RETRIED: a failure below isn't a call of f");
        x = new StageConveyor();
        int negated = x.basic(0);
        int flaky = x.stage(x.range(0, 3), 12, x.basic(27), 0);
        int r = x.stage(flaky, 28, negated, 3);
        c.due("fails 7 at " + flaky + " given 0", all(r));
        c.due(1, x.count(5));
    }

    private static void limited() {
        c.about("LIMITED: FAILS SIZE if the WEIGHTS of all that came, with it, are above a");
        x = new StageConveyor();
        int p = x.range(0, 3);
        for (int a = 0; a < 5; a++) {
            int l = x.stage(p, 29, 0, a);
            c.due(a < 3 ? "fails 4 at " + l + " given " + a : "[0, 1, 2]", all(l));
            c.due(a < 3 ? a + 1 : 3, x.given(p));
        }
        int one = x.whole(1);
        int mixed = Kit.row(x, one, x.pair(one, one), 0, x.cons(0, 0));
        // 1, 4, 5, 7
        int[] due = {0, 1, 1, 1, 2, 3, 3, 4, 4};
        for (int a = 0; a < due.length; a++) {
            int l = x.stage(mixed, 29, 0, a);
            c.due(due[a] == 4 ? 0 : -104, x.run(l, 0, 0, 0));
            c.due(due[a], x.given(l));
        }
        c.about("LIMITED: at the place where it stands");
        int l = x.stage(p, 29, 0, 3);
        c.due("6", Kit.run(x, x.both(l, l, 8, 0), 0, 0, 0));
    }

    private static void cached() {
        c.about("CACHED: as it is first asked it asks for all");
        x = new StageConveyor();
        c.due("[7]", all(x.stage(longs(7), 30, 0, 0)));
        int p = x.range(0, 3);
        int k = x.stage(p, 30, 0, 0);
        c.due("[]", all(x.stage(k, 16, 0, 0)));
        c.due(0, x.given(p));
        c.due("[0]", all(x.stage(k, 16, 0, 1)));
        c.due(3, x.given(p));
        c.due("[0, 0, 1, 1, 2, 2]", all(x.both(k, k, 10, 0)));
        c.due(6, x.given(p));
        c.about("SORTED, REVERSED, CACHED: a failure below comes as it is first asked");
        int failing = x.guard(p, 7, 2);
        int[] sorts = {20, 21, 30};
        for (int sort : sorts) {
            int s = x.stage(failing, sort, -1, 0);
            c.due("fails 6 at " + failing + " given 2", Kit.run(x, s, 5, 0, 0));
            c.due(0, x.given(s));
        }
    }

    /** One PIPELINE of each KIND, ANY the last. */
    private static int[] ofEachKind() {
        int longs = x.range(0, 2);
        int any = x.row(0);
        return new int[] {longs, x.steps(0.0, 1.0, 2), x.stage(any, 12, x.basic(12), 0), x.stage(longs, 24, 0, 0),
            x.stage(longs, 22, 0, 1), any};
    }

    private static void kinds() {
        c.about("STAGES: KIND as below, if nothing else is told");
        x = new StageConveyor();
        int[] of = ofEachKind();
        int one = x.whole(1);
        int kind = x.basic(24);
        int listed = x.basic(23);
        int second = x.basic(50);
        int[] asBelow = {11, 14, 15, 16, 17, 18, 19, 20, 21, 29, 30};
        for (int i = 0; i < 6; i++) {
            c.due(i, x.look(of[i], 6));
            for (int sort : asBelow) {
                int s = x.stage(of[i], sort, sort == 20 ? -1 : kind, 1);
                c.due(i, x.look(s, 6));
                x.undo();
            }
            int[] others = {12, 13, 22, 23, 24, 25, 26, 28};
            int[] due = {0, 5, 4, 4, 3, 5, 4, 0};
            for (int k = 0; k < others.length; k++) {
                int f = others[k] == 13 ? listed : others[k] == 25 ? second : kind;
                int s = x.stage(of[i], others[k], f, one);
                c.due(due[k], x.look(s, 6));
                x.undo();
            }
        }
    }

    private static void rescuedKinds() {
        c.about("RESCUED: KIND as 8, by the VALUE's");
        x = new StageConveyor();
        int[] of = ofEachKind();
        int[] values = {x.whole(1), x.real(1.0), x.word(1), x.pair(0, 0), 0};
        for (int i = 0; i < 6; i++) {
            for (int k = 0; k < 5; k++) {
                int s = x.stage(of[i], 27, 0, values[k]);
                c.due(i == k ? i : 5, x.look(s, 6));
                x.undo();
            }
        }
    }

    private static void amounts() {
        int[][] ranges = {{15, 0, 1000}, {16, 0, 1000}, {22, 1, 10}, {23, 1, 10}, {28, 1, 3}, {29, 0, 10000}};
        for (int[] r : ranges) {
            c.about("SORT " + r[0] + ": a from " + r[1] + " to " + r[2]);
            x = new StageConveyor();
            int f = x.basic(0);
            int p = x.range(0, 3);
            int[] out = {r[1] - 1, r[2] + 1, -100, 20000, Integer.MAX_VALUE, Integer.MIN_VALUE};
            for (int a : out) {
                c.due(-2, x.stage(p, r[0], f, a));
            }
            c.due(1, x.count(3));
            c.due(1, x.stage(p, r[0], f, r[1]));
            c.due(2, x.stage(p, r[0], f, r[2]));
            c.due(r[1], x.look(1, 4));
            c.due(r[2], x.look(2, 4));
        }
        c.about("SORTS 25, 27: VALUE number a");
        x = new StageConveyor();
        int plus = x.basic(49);
        int last = x.whole(1);
        int p = x.range(0, 3);
        int[] none = {-1, 2, 3, 60, Integer.MAX_VALUE, Integer.MIN_VALUE};
        for (int a : none) {
            c.due(-2, x.stage(p, 25, plus, a));
            c.due(-2, x.stage(p, 27, 0, a));
        }
        c.due(1, x.stage(p, 25, plus, 0));
        c.due(2, x.stage(p, 25, plus, last));
        c.due(3, x.stage(p, 27, 0, 0));
        c.due(4, x.stage(p, 27, 0, last));
        c.due(last, x.look(4, 4));
    }

    private static void unused() {
        int[] wild = {Integer.MIN_VALUE, -3, 20000, Integer.MAX_VALUE};
        for (int sort = 11; sort <= 30; sort++) {
            c.about("SORT " + sort + ": f and a are looked at where they are used alone");
            x = new StageConveyor();
            x.whole(1);
            int f = functionFor(sort);
            int p = x.range(0, 3);
            boolean usesF = sort <= 14 || sort == 17 || sort == 18 || sort == 20 || sort == 25 || sort == 26
                    || sort == 28;
            boolean usesA = sort == 15 || sort == 16 || sort == 22 || sort == 23 || sort == 25 || sort >= 27
                    && sort <= 29;
            int made = 1;
            for (int n : wild) {
                c.due(usesA ? -2 : made, x.stage(p, sort, f, n));
                if (!usesA) {
                    c.due(0, x.look(made++, 4));
                }
                c.due(usesF ? -2 : made, x.stage(p, sort, n, 1));
                if (!usesF) {
                    c.due(0, x.look(made++, 3));
                }
            }
            c.due(made, x.count(3));
            c.due(made, x.stage(p, sort, f, 1));
            c.due(usesF ? f : 0, x.look(made, 3));
            c.due(usesA ? 1 : 0, x.look(made, 4));
        }
    }

    private static void refusedFunctions() {
        int[] sorts = {11, 12, 13, 14, 17, 18, 25, 26, 28};
        for (int sort : sorts) {
            c.about("SORT " + sort + ": -2, no such FUNCTION, or not of as many arguments");
            x = new StageConveyor();
            x.whole(1);
            int one = sort == 13 ? x.basic(23) : x.basic(0);
            int two = x.basic(30);
            int p = x.range(0, 3);
            int[] none = {-1, -2, 2, 3, 60, Integer.MAX_VALUE, Integer.MIN_VALUE};
            for (int f : none) {
                c.due(-2, x.stage(p, sort, f, 1));
            }
            c.due(-2, x.stage(p, sort, sort == 25 ? one : two, 1));
            c.due(1, x.count(3));
            c.due(1, x.stage(p, sort, sort == 25 ? two : one, 1));
        }
    }

    private static void fitElement() {
        int[] asking = {0, 9, 11, 15, 18, 24};
        int[] sorts = {12, 14, 26, 28};
        for (int i = 0; i < 6; i++) {
            c.about("KINDS must FIT: what f asks for, CODE " + asking[i] + ", with the element");
            x = new StageConveyor();
            int[] of = ofEachKind();
            int f = x.basic(asking[i]);
            for (int kind = 0; kind < 6; kind++) {
                boolean right = i == 5 || kind == 5 || i == kind;
                int known = x.count(3);
                for (int sort : sorts) {
                    c.due(right ? known : -3, x.stage(of[kind], sort, f, 1));
                    if (right) {
                        x.undo();
                    }
                }
            }
        }
        // those whose answers are looked at, too: f gives a LONG, or a LIST
        int[] toLong = {4, 8, 11, -1, 18, 24};
        int[] toList = {-1, -1, 13, -1, 20, 23};
        for (int i = 0; i < 6; i++) {
            c.about("KINDS must FIT: SORTS 11, 13, 17, 18, asking for KIND " + i);
            x = new StageConveyor();
            int[] of = ofEachKind();
            int known = x.count(3);
            for (int kind = 0; kind < 6; kind++) {
                boolean right = i == 5 || kind == 5 || i == kind;
                for (int sort : new int[] {11, 13, 17, 18}) {
                    int code = sort == 13 ? toList[i] : toLong[i];
                    if (code >= 0) {
                        int f = x.basic(code);
                        c.due(right ? known : -3, x.stage(of[kind], sort, f, 1));
                        x.undo();
                        if (right) {
                            x.undo();
                        }
                    }
                }
            }
        }
    }

    private static void fitAnswer() {
        // CODES by the KIND of their answers, all asking for ANY but the second and the third
        c.about("KINDS must FIT: an answer of f of 11, 17, 18 with LONG, of 13 with LIST");
        x = new StageConveyor();
        int any = x.row(0);
        int[] answers = {x.basic(24), x.basic(7), x.basic(12), x.basic(26), x.basic(23), x.basic(27)};
        int[] long3 = {11, 17, 18};
        for (int kind = 0; kind < 6; kind++) {
            c.due(kind, x.shape(answers[kind], 3));
            for (int sort : long3) {
                boolean right = kind == 0 || kind == 5;
                c.due(right ? 1 : -3, x.stage(any, sort, answers[kind], 0));
                if (right) {
                    x.undo();
                }
            }
            boolean right = kind == 4 || kind == 5;
            c.due(right ? 1 : -3, x.stage(any, 13, answers[kind], 0));
            if (right) {
                x.undo();
            }
            // of the others any answer will do
            for (int sort : new int[] {12, 14, 26, 28}) {
                c.due(1, x.stage(any, sort, answers[kind], 1));
                x.undo();
            }
        }
    }

    private static void fitFolded() {
        c.about("KINDS must FIT: f of 25, its second argument with the element");
        x = new StageConveyor();
        int[] of = ofEachKind();
        int known = x.count(3);
        int element = x.basic(48);
        int first = x.behind(x.basic(23), element);
        int cons = x.exchange(x.basic(46));
        int one = x.whole(1);
        for (int kind = 0; kind < 6; kind++) {
            boolean right = kind == 0 || kind == 5;
            c.due(right ? known : -3, x.stage(of[kind], 25, first, 0));
            if (right) {
                x.undo();
            }
            c.due(known, x.stage(of[kind], 25, cons, 0));
            x.undo();
        }
        c.about("KINDS must FIT: what f of 25 asks for first with the VALUE's KIND");
        int[] values = {one, x.real(1.0), x.word(1), x.pair(0, 0), 0};
        for (int kind = 0; kind < 5; kind++) {
            c.due(kind == 4 ? known : -3, x.stage(of[0], 25, first, values[kind]));
        }
        x.undo();
        c.about("KINDS must FIT: what f of 25 asks for first with f's answer");
        int below = x.basic(41);
        c.due(-3, x.stage(of[1], 25, below, values[1]));
        int wrong = x.behind(x.basic(18), x.basic(47));
        c.due(-3, x.stage(of[4], 25, wrong, 0));
        c.due(known, x.stage(of[4], 25, x.basic(47), 0));
        c.due(known + 1, x.stage(of[0], 25, element, 0));
        c.due(5, x.look(known + 1, 6));
    }

    private static void noSort() {
        c.about("promise 19: -1, no such PIPELINE; -2, no such SORT");
        x = new StageConveyor();
        int f = x.basic(0);
        int p = x.range(0, 3);
        int[] none = {-1, 1, 2, 80, Integer.MAX_VALUE, Integer.MIN_VALUE};
        for (int n : none) {
            c.due(-1, x.stage(n, 12, f, 1));
            c.due(-1, x.stage(n, 30, f, 1));
        }
        int[] sorts = {-1, 0, 6, 9, 10, 31, 32, Integer.MAX_VALUE, Integer.MIN_VALUE};
        for (int sort : sorts) {
            c.due(-2, x.stage(p, sort, f, 1));
        }
        c.due(1, x.count(3));
        c.due(1, x.stage(p, 11, f, 1));
        c.due(2, x.stage(p, 30, f, 1));
    }
}
