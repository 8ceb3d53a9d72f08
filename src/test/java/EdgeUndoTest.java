/** The edges of look(), shape(), undo() and count(), promises 36 to 39. */
public final class EdgeUndoTest {
    private static final Check c = new Check("EdgeUndoTest");
    private static StageConveyor x;

    public static void main(String[] args) {
        lookRefused();
        lookAtEach();
        lookAtF();
        lookAtSpent();
        shapeRefused();
        shapeOfTwo();
        nothingToUndo();
        eachBuilding();
        numbersGivenAnew();
        spentByItGoes();
        spentOtherwiseStays();
        spentByRunStays();
        bothOfTwo();
        rewriteAsOne();
        refusedAreNone();
        runsStay();
        undoneToTheEnd();
        countRefused();
        countOfEach();
        countOfRuns();
        countOfFull();
        c.finish();
    }

    private static void lookRefused() {
        c.about("promise 36: -1, no such PIPELINE; -2, no such number");
        x = new StageConveyor();
        int[] none = {-1, 0, 1, 80, Integer.MAX_VALUE, Integer.MIN_VALUE};
        for (int n : none) {
            c.due(-1, x.look(n, 0));
            c.due(-1, x.look(n, 9));
        }
        int p = x.range(0, 3);
        int[] whats = {-1, 9, 10, 100, Integer.MAX_VALUE, Integer.MIN_VALUE};
        for (int what : whats) {
            c.due(-2, x.look(p, what));
        }
        c.due(0, x.look(p, 0));
        c.due(0, x.look(p, 8));
        c.due(-1, x.look(1, 8));
    }

    private static String looked(int p) {
        StringBuilder so = new StringBuilder();
        for (int what = 0; what < 9; what++) {
            so.append(what == 0 ? "" : " ").append(x.look(p, what));
        }
        return so.toString();
    }

    private static void lookAtEach() {
        c.about("promise 36: its SORT, those below, f, a, SIZE, KIND, RESTARTS, SPENT");
        x = new StageConveyor();
        int one = x.whole(1);
        int ab = Kit.word(x, "ab");
        int unused = x.basic(12);
        int negated = x.basic(0);
        int plus = x.basic(30);
        int twice = x.basic(26);
        x.key(unused, false);
        int key = x.key(negated, true);
        c.due("0 -1 -1 0 0 1 0 1 0", looked(x.range(5, 9)));
        c.due("1 -1 -1 1 7 1 0 0 0", looked(x.iterate(negated, one, 7, false)));
        c.due("2 -1 -1 3 8 1 5 0 0", looked(x.iterate(twice, one, 8, true)));
        c.due("3 -1 -1 0 9 1 1 1 0", looked(x.steps(0.0, 1.0, 9)));
        c.due("4 -1 -1 0 0 1 5 1 0", looked(x.row(0)));
        c.due("5 -1 -1 0 2 1 2 0 0", looked(x.row(ab)));
        c.due("6 0 -1 0 -12 2 0 1 0", looked(x.guard(0, 6, -12)));
        c.due("7 3 -1 0 12 2 1 1 0", looked(x.guard(3, 7, 12)));
        c.due("8 6 1 0 0 4 0 0 0", looked(x.both(6, 1, 8, 3)));
        c.due("9 6 0 2 0 4 0 1 0", looked(x.both(6, 0, 9, plus)));
        c.due("10 9 3 0 0 6 5 1 0", looked(x.both(9, 3, 10, 3)));
        int[][] due = {{11, 1, 0, 0}, {12, 1, 0, 0}, {14, 1, 0, 0}, {15, 0, 5, 0}, {16, 0, 5, 0}, {17, 1, 0, 0},
            {18, 1, 0, 0}, {19, 0, 0, 0}, {20, 1, 0, 0}, {21, 0, 0, 0}, {22, 0, 5, 4}, {23, 0, 5, 4}, {24, 0, 0, 3},
            {26, 1, 0, 4}, {29, 0, 5, 0}, {30, 0, 0, 0}};
        for (int[] of : due) {
            int s = x.stage(0, of[0], of[0] == 20 ? key : negated, 5);
            c.due(of[0] + " 0 -1 " + of[1] + " " + of[2] + " 2 " + of[3] + " 1 0", looked(s));
        }
        c.due("25 0 -1 2 1 2 0 1 0", looked(x.stage(0, 25, plus, one)));
        c.due("27 0 -1 0 2 2 5 1 0", looked(x.stage(0, 27, negated, ab)));
        c.due("28 0 -1 1 3 2 0 1 0", looked(x.stage(0, 28, negated, 3)));
        int listed = x.basic(23);
        c.due("13 0 -1 " + listed + " 0 2 5 1 0", looked(x.stage(0, 13, listed, 5)));
    }

    private static void lookAtF() {
        c.about("promise 36: f as given, -1 as a COMPARATOR, too");
        x = new StageConveyor();
        int p = x.range(0, 3);
        c.due(-1, x.look(x.stage(p, 20, -1, 0), 3));
        int key = x.key(x.basic(0), false);
        c.due(key, x.look(x.stage(p, 20, key, 0), 3));
        c.about("promise 36: NOTES and k as given");
        int[] notes = {0, -1, Integer.MAX_VALUE, Integer.MIN_VALUE};
        for (int note : notes) {
            c.due(note, x.look(x.guard(p, 6, note), 4));
        }
        c.due(0, x.look(x.guard(p, 7, 0), 4));
        c.due(1000, x.look(x.guard(p, 7, 1000), 4));
    }

    private static void lookAtSpent() {
        c.about("promise 36: 8 whether it is SPENT, 7 whether it RESTARTS");
        x = new StageConveyor();
        int words = x.row(Kit.word(x, "ab"));
        int range = x.range(0, 3);
        c.due(0, x.look(words, 8));
        int cached = x.stage(words, 30, 0, 0);
        c.due(1, x.look(words, 8));
        c.due(0, x.look(cached, 8));
        x.run(cached, 0, 0, 0);
        c.due(1, x.look(cached, 8));
        x.stage(range, 30, 0, 0);
        x.run(range, 0, 0, 0);
        c.due(0, x.look(range, 8));
        c.due(1, x.look(range, 7));
        c.due(0, x.look(words, 7));
        c.due(0, x.look(cached, 7));
    }

    private static void shapeRefused() {
        c.about("promise 37: -2");
        x = new StageConveyor();
        int[] none = {-1, 0, 1, 60, Integer.MAX_VALUE, Integer.MIN_VALUE};
        for (int n : none) {
            c.due(-2, x.shape(n, 0));
        }
        int f = x.basic(0);
        int[] whats = {-1, 5, 6, 100, Integer.MAX_VALUE, Integer.MIN_VALUE};
        for (int what : whats) {
            c.due(-2, x.shape(f, what));
        }
        c.due(1, x.shape(f, 0));
        c.due(1, x.shape(f, 4));
        c.due(-2, x.shape(1, 0));
    }

    private static String shape(int f) {
        StringBuilder so = new StringBuilder();
        for (int what = 0; what < 5; what++) {
            so.append(what == 0 ? "" : " ").append(x.shape(f, what));
        }
        return so.toString();
    }

    private static void shapeOfTwo() {
        c.about("promise 37: arguments, what they ask for, -1 without a second, answers, SIZE");
        x = new StageConveyor();
        int element = x.basic(48);
        int join = x.basic(46);
        c.due("2 4 0 5 1", shape(element));
        c.due("2 0 4 5 2", shape(x.exchange(element)));
        c.due("2 4 0 4 3", shape(x.behind(x.basic(23), element)));
        c.due("1 0 -1 5 2", shape(x.bind(element, 0, false)));
        c.due("1 4 -1 5 2", shape(x.bind(element, x.whole(1), true)));
        c.due("1 5 -1 4 2", shape(x.bind(join, 0, true)));
        c.due("1 4 -1 4 2", shape(x.bind(join, 0, false)));
        c.due("1 4 -1 4 3", shape(x.bind(x.exchange(join), 0, true)));
        c.due("1 2 -1 0 3", shape(x.behind(x.basic(0), x.basic(11))));
    }

    private static void nothingToUndo() {
        c.about("promise 38: -1, there is none");
        x = new StageConveyor();
        c.due(-1, x.undo());
        c.due(1, x.count(0));
        x.whole(1);
        c.due(0, x.undo());
        c.due(-1, x.undo());
        c.due(-1, x.undo());
        c.due(1, x.count(0));
        c.due(1, x.whole(2));
    }

    private static void eachBuilding() {
        c.about("promise 38: 0 a VALUE, 1 a FUNCTION, 2 a COMPARATOR, 3 a PIPELINE, 4 a rewrite()");
        Check.Answer[] makers = {o -> o.whole(1), o -> o.real(1.0), o -> o.word(1), o -> o.pair(0, 0), o -> o.cons(0, 0),
            o -> o.basic(0), o -> o.behind(0, 0), o -> o.bind(1, 1, true), o -> o.bind(1, 1, false),
            o -> o.exchange(1), o -> o.key(0, true), o -> o.then(0, 0), o -> o.range(0, 1),
            o -> o.iterate(0, 1, 1, false), o -> o.iterate(2, 1, 1, true), o -> o.steps(0.0, 1.0, 1), o -> o.row(0),
            o -> o.row(2), o -> o.guard(0, 6, 0), o -> o.guard(0, 7, 0), o -> o.both(0, 0, 8, 0),
            o -> o.both(0, 0, 9, 1), o -> o.both(0, 1, 10, 0), o -> o.stage(1, 30, 0, 0), o -> o.rewrite(3),
            o -> o.rewrite(5)};
        for (int i = 0; i < makers.length; i++) {
            x = new StageConveyor();
            x.whole(1);
            x.word(1);
            x.basic(0);
            x.basic(30);
            x.basic(26);
            x.key(0, false);
            x.range(0, 3);
            x.row(2);
            x.stage(0, 12, 0, 0);
            x.stage(2, 12, 0, 0);
            x.stage(0, 21, 0, 0);
            x.stage(4, 21, 0, 0);
            x.run(0, 0, 0, 0);
            String before = Kit.besidesRules(x);
            c.due(1, makers[i].of(x) >= 0 ? 1 : 0);
            c.due(13, x.count(7));
            c.due(i < 5 ? 0 : i < 10 ? 1 : i < 12 ? 2 : i < 24 ? 3 : 4, x.undo());
            c.due(before, Kit.besidesRules(x));
        }
    }

    private static void numbersGivenAnew() {
        c.about("promise 38: goes, with its numbers");
        x = new StageConveyor();
        int one = x.whole(1);
        c.due(0, x.undo());
        c.due(-2, x.pair(one, 0));
        c.due(one, x.word(2));
        c.due("\"b\"", Kit.run(x, Kit.row(x, one), 5, 0, 0));
        x = new StageConveyor();
        int f = x.basic(0);
        c.due(1, x.undo());
        c.due(-2, x.shape(f, 0));
        c.due(-2, x.key(f, false));
        c.due(f, x.basic(30));
        c.due(2, x.shape(f, 0));
        x = new StageConveyor();
        f = x.basic(0);
        int key = x.key(f, true);
        int p = x.range(0, 3);
        x.undo();
        c.due(2, x.undo());
        c.due(p, x.range(0, 3));
        c.due(-2, x.stage(p, 20, key, 0));
        c.due(key, x.key(f, false));
        c.due("[2, 1, 0]", Kit.all(x, x.stage(p, 20, key, 0)));
        x = new StageConveyor();
        int q = x.steps(0.0, 1.0, 3);
        c.due(3, x.undo());
        c.due(-1, x.look(q, 0));
        c.due(-1, x.run(q, 0, 0, 0));
        c.due(q, x.range(5, 7));
        c.due("[5, 6]", Kit.all(x, q));
    }

    private static void spentByItGoes() {
        c.about("promise 38: and that PIPELINES below became SPENT by it");
        Check.Answer[] makers = {o -> o.guard(0, 6, 0), o -> o.guard(0, 7, 0), o -> o.stage(0, 30, 0, 0),
            o -> o.both(0, 1, 8, 0), o -> o.both(1, 0, 10, 0), o -> o.both(0, 2, 8, 0), o -> o.both(2, 0, 8, 0)};
        int[] other = {0, 0, 0, 1, 1, 0, 0};
        for (int i = 0; i < makers.length; i++) {
            x = new StageConveyor();
            int ab = Kit.word(x, "ab");
            x.row(ab);
            x.row(ab);
            x.range(0, 3);
            c.due(3, makers[i].of(x));
            c.due(1, x.look(0, 8));
            c.due(other[i], x.look(1, 8));
            c.due(0, x.look(2, 8));
            c.due(-5, x.run(0, 0, 0, 0));
            c.due(3, x.undo());
            c.due(0, x.look(0, 8));
            c.due(0, x.look(1, 8));
            c.due(3, makers[i].of(x));
            c.due(3, x.undo());
            c.due("[\"a\", \"b\"]", Kit.all(x, 0));
            c.due(1, x.look(0, 8));
        }
    }

    /** Undone buildings that had nothing to do with PIPELINE 0 or 1 leave them SPENT. */
    private static void spentOtherwiseStays() {
        c.about("promise 38: what another one made SPENT stays so");
        Check.Answer[] makers = {o -> o.whole(1), o -> o.basic(0), o -> o.behind(0, 0), o -> o.key(0, true),
            o -> o.then(0, 0), o -> o.range(0, 1), o -> o.row(1), o -> o.guard(2, 6, 0), o -> o.both(2, 2, 8, 0),
            o -> o.both(2, 3, 8, 0), o -> o.both(3, 2, 8, 0), o -> o.stage(3, 30, 0, 0), o -> o.rewrite(5),
            o -> o.rewrite(8)};
        for (Check.Answer maker : makers) {
            x = new StageConveyor();
            int ab = Kit.word(x, "ab");
            c.due(1, ab);
            x.basic(0);
            x.key(0, false);
            x.row(ab);
            x.row(ab);
            x.range(0, 3);
            x.row(ab);
            x.stage(2, 15, 0, 1);
            x.stage(4, 15, 0, 1);
            x.row(ab);
            x.stage(6, 15, 0, 1);
            x.stage(7, 15, 0, 1);
            x.run(0, 0, 0, 0);
            x.stage(1, 30, 0, 0);
            c.due(1, maker.of(x) >= 0 ? 1 : 0);
            c.due(1, x.undo() >= 0 ? 1 : 0);
            int[] due = {1, 1, 0, 0, 0, 0, 1, 1, 0, 0};
            for (int p = 0; p < due.length; p++) {
                c.due(due[p], x.look(p, 8));
            }
        }
    }

    private static void spentByRunStays() {
        c.about("promise 38: that it was run stays");
        x = new StageConveyor();
        int words = x.row(Kit.word(x, "ab"));
        x.run(words, 0, 0, 0);
        x.whole(1);
        c.due(0, x.undo());
        c.due(1, x.look(words, 8));
        c.due(-5, x.stage(words, 30, 0, 0));
        c.due(2, x.count(7));
        c.due(3, x.undo());
        c.due(words, x.row(1));
        c.due(0, x.look(words, 8));
        c.due("[\"a\", \"b\"]", Kit.all(x, words));
    }

    private static void bothOfTwo() {
        c.about("promise 38: both of the two below");
        x = new StageConveyor();
        int ab = Kit.word(x, "ab");
        int p = x.row(ab);
        int q = x.row(ab);
        int join = x.basic(42);
        for (int sort = 8; sort <= 10; sort++) {
            x.both(p, q, sort, join);
            c.due(1, x.look(p, 8));
            c.due(1, x.look(q, 8));
            c.due(3, x.undo());
            c.due(0, x.look(p, 8));
            c.due(0, x.look(q, 8));
        }
        c.about("promise 38: one after the other, the latest first");
        int a = x.stage(p, 30, 0, 0);
        int b = x.stage(a, 30, 0, 0);
        x.stage(b, 30, 0, 0);
        int[][] due = {{1, 1, 0}, {1, 0, -1}, {0, -1, -1}};
        for (int[] spent : due) {
            c.due(3, x.undo());
            c.due(spent[0], x.look(p, 8));
            c.due(spent[1], x.look(a, 8));
            c.due(spent[2], x.look(b, 8));
        }
    }

    private static void rewriteAsOne() {
        c.about("promise 38: all that one rewrite() made");
        x = new StageConveyor();
        int f = x.basic(12);
        int words = x.row(Kit.word(x, "ab"));
        int so = words;
        for (int i = 0; i < 4; i++) {
            so = x.stage(so, 12, f, 0);
        }
        so = x.stage(x.stage(so, 16, 0, 9), 30, 0, 0);
        String before = Kit.besidesRules(x);
        int made = x.rewrite(so);
        c.due(so + 3, made);
        c.due(4, x.count(1));
        c.due(1, x.look(so, 8));
        c.due(4, x.undo());
        c.due(before, Kit.besidesRules(x));
        c.due("000000030", Kit.rules(x));
        c.due(-2, x.shape(1, 0));
        c.due(-1, x.look(made, 0));
        c.about("promise 38: a rewrite() that changed nothing is no building");
        int known = x.count(7);
        int plain = x.range(0, 3);
        c.due(plain, x.rewrite(plain));
        c.due(known + 1, x.count(7));
        c.due(3, x.undo());
        c.about("promise 38: what was built on it goes first");
        made = x.rewrite(so);
        x.stage(made, 21, 0, 0);
        c.due(1, x.look(made, 8));
        c.due(3, x.undo());
        c.due(0, x.look(made, 8));
        c.due(1, x.look(so, 8));
        c.due(4, x.undo());
        c.due(0, x.look(so, 8));
    }

    private static void refusedAreNone() {
        c.about("promise 38: refused calls are no buildings");
        x = new StageConveyor();
        x.whole(1);
        x.real(Double.NaN);
        x.word(27);
        x.pair(9, 9);
        x.cons(9, 9);
        x.basic(29);
        x.behind(0, 0);
        x.bind(0, 0, true);
        x.exchange(0);
        x.key(0, true);
        x.then(0, 0);
        x.range(0, 10001);
        x.iterate(0, 0, 0, true);
        x.steps(0.0, 0.0, -1);
        x.row(1);
        x.guard(0, 6, 0);
        x.both(0, 0, 8, 0);
        x.stage(0, 30, 0, 0);
        x.rewrite(0);
        x.run(0, 0, 0, 0);
        c.due(1, x.count(7));
        c.due(0, x.undo());
        c.due(-1, x.undo());
    }

    private static void runsStay() {
        c.about("promise 38: what the latest RUN tells stays");
        x = new StageConveyor();
        int f = x.basic(0);
        int p = x.range(5, 7);
        int q = x.stage(x.guard(p, 6, 3), 12, f, 0);
        c.due("[-5, -6]", Kit.all(x, q));
        for (int left = 3; left >= 0; left--) {
            c.due(left == 0 ? 1 : 3, x.undo());
            c.due("[-5, -6]", Kit.result(x));
            c.due("0 0", Kit.calls(x));
            c.due(156, x.argument(0, false));
            c.due(3, x.closed(0, false));
            c.due(6, x.count(4));
            c.due(2, x.count(5));
            c.due(6, x.count(6));
            c.due(left > 0 ? 2 : -1, x.calls(f));
            c.due(left > 1 ? 2 : -1, x.given(p));
        }
        c.due(-1, x.undo());
        c.about("promise 38: AT tells the number of one that went");
        p = x.range(0, 3);
        int failing = x.guard(p, 7, 2);
        c.due(-106, x.run(failing, 0, 0, 0));
        x.undo();
        c.due(failing, x.failure(1));
        c.due(2, x.failure(2));
        c.due(-1, x.given(failing));
        c.due(2, x.given(p));
    }

    private static void undoneToTheEnd() {
        c.about("promise 38: as often as count(7) tells, from the fullest object on");
        x = new StageConveyor();
        full(x);
        c.due(219, x.count(7));
        int[] due = {3, 2, 1, 0};
        int[] many = {80, 20, 60, 59};
        for (int i = 0; i < 4; i++) {
            for (int k = 0; k < many[i]; k++) {
                c.due(due[i], x.undo());
            }
        }
        c.due(-1, x.undo());
        c.due(0, x.count(7));
        c.due(1, x.count(0));
        c.due(0, x.count(1) + x.count(2) + x.count(3));
    }

    private static void full(StageConveyor o) {
        for (int i = 1; i < 60; i++) {
            o.whole(i);
        }
        for (int i = 0; i < 60; i++) {
            o.basic(0);
        }
        for (int i = 0; i < 20; i++) {
            o.key(0, false);
        }
        for (int i = 0; i < 80; i++) {
            o.range(0, 1);
        }
    }

    private static void countRefused() {
        c.about("promise 39: -2 for others");
        x = new StageConveyor();
        int[] none = {-1, 8, 9, 100, Integer.MAX_VALUE, Integer.MIN_VALUE};
        for (int what : none) {
            c.due(-2, x.count(what));
        }
        c.due(1, x.count(0));
        c.due(0, x.count(7));
    }

    private static String counted() {
        StringBuilder so = new StringBuilder();
        for (int what = 0; what < 8; what++) {
            so.append(what == 0 ? "" : " ").append(x.count(what));
        }
        return so.toString();
    }

    private static void countOfEach() {
        c.about("promise 39: 0 VALUES, 1 FUNCTIONS, 2 COMPARATORS, 3 PIPELINES, 7 undo()");
        x = new StageConveyor();
        c.due("1 0 0 0 0 0 0 0", counted());
        x.whole(1);
        c.due("2 0 0 0 0 0 0 1", counted());
        x.basic(0);
        c.due("2 1 0 0 0 0 0 2", counted());
        x.key(0, true);
        c.due("2 1 1 0 0 0 0 3", counted());
        x.range(0, 3);
        c.due("2 1 1 1 0 0 0 4", counted());
        x.stage(0, 12, 0, 0);
        x.stage(1, 12, 0, 0);
        c.due("2 1 1 3 0 0 0 6", counted());
        x.rewrite(2);
        c.due("2 2 1 4 0 0 0 7", counted());
        x.undo();
        c.due("2 1 1 3 0 0 0 6", counted());
    }

    private static void countOfRuns() {
        c.about("promise 39: 4 STEPS, 5 CALLS of the latest RUN; 6 STEPS of all, foretold ones, too");
        x = new StageConveyor();
        int f = x.basic(0);
        int p = x.range(0, 3);
        x.run(p, 12, f, 0);
        c.due("1 1 0 1 6 3 6 2", counted());
        x.foretell(p, 10, 0, 0);
        c.due("1 1 0 1 6 3 12 2", counted());
        x.equal(p, p, 12, f, 0);
        c.due("1 1 0 1 6 3 24 2", counted());
        x.run(p, 0, 0, 0);
        c.due("1 1 0 1 3 0 27 2", counted());
        x.run(x.range(0, 601), 12, f, 0);
        c.due("1 1 0 2 600 300 627 3", counted());
        x.run(p, 99, 0, 0);
        c.due("1 1 0 2 600 300 627 3", counted());
        x.run(x.range(0, 0), 0, 0, 0);
        c.due("1 1 0 3 0 0 627 4", counted());
    }

    private static void countOfFull() {
        c.about("promise 39: of the fullest object");
        x = new StageConveyor();
        full(x);
        c.due("60 60 20 80 0 0 0 219", counted());
        c.due(-4, x.whole(1));
        c.due(-4, x.basic(0));
        c.due(-4, x.key(0, true));
        c.due(-4, x.range(0, 1));
        c.due("60 60 20 80 0 0 0 219", counted());
    }
}
