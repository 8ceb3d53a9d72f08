/** The 600 STEPS of a RUN, to the last one, and the 16000 of all (promises 20 to 22 and 39). */
public final class EdgeStepTest {
    private static final Check c = new Check("EdgeStepTest");
    private static StageConveyor x;
    private static int one;

    public static void main(String[] args) {
        elements();
        behindTheCall();
        calls();
        callsPutTogether();
        callsOfEnds();
        keysOfEnds();
        listsOfFunctions();
        noListNoSteps();
        aheadOfSize();
        listsOfStages();
        pairsCostNothing();
        listsOfEnds();
        listsOfNone();
        groupsOfEnd();
        partsOfEnd();
        whatNeedsNone();
        eachRunAnew();
        closing();
        sixteenThousand();
        foretoldOnes();
        equalOnes();
        c.finish();
    }

    private static void anew() {
        x = new StageConveyor();
        one = x.whole(1);
    }

    /** p's elements, behind as many STEPS that are taken as it is first asked. */
    private static int after(int steps, int p) {
        int nothing = x.stage(x.range(0, steps), 15, 0, steps);
        return x.both(nothing, p, 8, 0);
    }

    /** A PIPELINE whose one ask costs this, or an END on it; answers what is run. */
    interface Made {
        int behind(int steps);
    }

    /** It goes with so many STEPS ahead of it, and FAILS STEPS with one more, AT the one told by this. */
    private static void dueCost(int cost, int end, int f, int a, Made made) {
        anew();
        int right = made.behind(600 - cost);
        c.due(1, x.run(right, end, f, a) >= 0 ? 1 : 0);
        c.due(600, x.count(4));
        anew();
        int less = made.behind(599 - cost);
        c.due(1, x.run(less, end, f, a) >= 0 ? 1 : 0);
        c.due(599, x.count(4));
        anew();
        int wrong = made.behind(601 - cost);
        c.due(-109, x.run(wrong, end, f, a));
        c.due(600, x.count(4));
        c.due(600, x.count(6));
        c.due(-1, x.kind(0));
    }

    private static void elements() {
        c.about("STEPS: 1 as a source of SORTS 0 to 5 gives an element");
        dueCost(1, 0, 0, 0, n -> after(n, x.range(0, 1)));
        dueCost(3, 0, 0, 0, n -> after(n, x.range(0, 3)));
        dueCost(1, 0, 0, 0, n -> after(n, x.iterate(x.basic(0), one, 1, false)));
        dueCost(2, 0, 0, 0, n -> after(n, x.iterate(x.basic(26), one, 1, true)));
        dueCost(2, 0, 0, 0, n -> after(n, x.steps(0.0, 1.0, 2)));
        dueCost(2, 0, 0, 0, n -> after(n, x.row(Kit.list(x, one, one))));
        dueCost(2, 0, 0, 0, n -> after(n, x.row(Kit.word(x, "ab"))));
        c.about("STEPS: none as one of SORTS 6 to 10 gives it");
        dueCost(1, 0, 0, 0, n -> after(n, x.guard(x.range(0, 1), 6, 0)));
        dueCost(1, 0, 0, 0, n -> after(n, x.guard(x.range(0, 1), 7, 9)));
        dueCost(2, 0, 0, 0, n -> after(n, x.both(x.range(0, 1), x.range(0, 1), 8, 0)));
        dueCost(3, 0, 0, 0, n -> after(n, x.both(x.range(0, 1), x.range(0, 1), 9, x.basic(30))));
        dueCost(2, 0, 0, 0, n -> after(n, x.both(x.range(0, 1), x.range(0, 1), 10, 0)));
        c.about("STEPS: FAILS AT the source, which hasn't given it");
        anew();
        int source = x.range(0, 3);
        int p = after(598, source);
        c.due("fails 9 at " + source + " given 2", Kit.run(x, p, 0, 0, 0));
        c.due(2, x.given(source));
        c.due(2, x.given(p));
    }

    private static void behindTheCall() {
        c.about("STEPS: an element's behind the CALL that makes it");
        dueCost(3, 0, 0, 0, n -> after(n, x.iterate(x.basic(0), one, 2, false)));
        dueCost(4, 0, 0, 0, n -> after(n, x.iterate(x.basic(26), one, 2, true)));
        for (int left = 1; left <= 3; left++) {
            anew();
            int f = x.basic(0);
            int source = x.iterate(f, one, 2, false);
            String answer = Kit.run(x, after(600 - left, source), 0, 0, 0);
            c.due(left == 3 ? "2" : "fails 9 at " + source + " given 1", answer);
            c.due(left == 1 ? 0 : 1, x.calls(f));
            c.due(left == 1 ? 0 : 1, x.count(5));
            c.due(left == 3 ? 2 : 1, x.given(source));
        }
        for (int left = 0; left <= 2; left++) {
            anew();
            int f = x.basic(26);
            int source = x.iterate(f, one, 1, true);
            String answer = Kit.run(x, after(600 - left, source), 0, 0, 0);
            c.due(left == 2 ? "1" : "fails 9 at " + source + " given 0", answer);
            c.due(left == 0 ? 0 : 1, x.calls(f));
        }
    }

    /** A stage that calls f once for one element: it costs 2, and 1 CALL isn't counted where 1 is left. */
    private static void dueOneCall(int sort, int code) {
        dueCost(2, 0, 0, 0, n -> x.stage(after(n, x.range(0, 1)), sort, x.basic(code), one));
        anew();
        int f = x.basic(code);
        int s = x.stage(after(599, x.range(0, 1)), sort, f, one);
        c.due("fails 9 at " + s + " given 0", Kit.run(x, s, 0, 0, 0));
        c.due(0, x.calls(f));
        c.due(0, x.count(5));
        c.due(-1, x.call(0));
    }

    private static void calls() {
        int[] sorts = {11, 12, 14, 17, 18, 28};
        for (int sort : sorts) {
            c.about("STEPS: 1 for each CALL, as it begins; a CALL isn't counted else, SORT " + sort);
            dueOneCall(sort, 5);
        }
        c.about("STEPS: 1 for each CALL, FOLDED");
        dueOneCall(25, 49);
        c.about("STEPS: 1 for each CALL, FLAT");
        dueCost(3, 0, 0, 0, n -> x.stage(after(n, x.range(0, 1)), 13, x.basic(23), 0));
        c.about("STEPS: 1 for each CALL, ZIPPED");
        dueCost(3, 0, 0, 0, n -> x.both(after(n, x.range(0, 1)), x.range(0, 1), 9, x.basic(30)));
        c.about("STEPS: 1 for each CALL, the KEYS of SORTED");
        dueCost(2, 0, 0, 0, n -> x.stage(after(n, x.range(0, 1)), 20, x.key(x.basic(0), false), 0));
        dueCost(1, 0, 0, 0, n -> x.stage(after(n, x.range(0, 1)), 20, -1, 0));
        dueCost(5, 0, 0, 0, n -> {
            int key = x.key(x.basic(0), false);
            int two = x.then(key, key);
            return x.stage(after(n, x.range(0, 1)), 20, x.then(two, two), 0);
        });
    }

    private static void callsPutTogether() {
        c.about("STEPS: those that a CALL makes are CALLS, too");
        dueCost(4, 0, 0, 0, n -> x.stage(after(n, x.range(0, 1)), 12, x.behind(x.basic(0), x.basic(1)), 0));
        dueCost(3, 0, 0, 0, n -> x.stage(after(n, x.range(0, 1)), 12, x.bind(x.basic(30), one, true), 0));
        dueCost(4, 0, 0, 0, n -> x.both(after(n, x.range(0, 1)), x.range(0, 1), 9, x.exchange(x.basic(30))));
        for (int left = 1; left <= 4; left++) {
            anew();
            int f = x.basic(0);
            int g = x.basic(1);
            int both = x.behind(f, g);
            int s = x.stage(after(600 - left, x.range(0, 1)), 12, both, 0);
            c.due(left == 4 ? "1" : "fails 9 at " + s + " given 0", Kit.run(x, s, 0, 0, 0));
            c.due(left > 1 ? 1 : 0, x.calls(both));
            c.due(left > 2 ? 1 : 0, x.calls(g));
            c.due(left > 3 ? 1 : 0, x.calls(f));
            c.due(left - 1, x.count(5));
        }
    }

    private static void callsOfEnds() {
        int[] ends = {6, 7, 8, 9, 12};
        for (int end : ends) {
            c.about("STEPS: 1 for each CALL of END " + end);
            // FUNCTION 0 is made first
            dueCost(2, end, 0, 0, n -> {
                x.basic(end == 9 ? 49 : 24);
                return after(n, x.range(0, 1));
            });
            anew();
            int f = x.basic(end == 9 ? 49 : 24);
            int p = after(599, x.range(0, 1));
            c.due("fails 9 at -1 given 0", Kit.run(x, p, end, f, 0));
            c.due(0, x.calls(f));
        }
    }

    private static void keysOfEnds() {
        int[] ends = {3, 4, 18};
        for (int end : ends) {
            c.about("STEPS: 1 for each KEY's CALL of END " + end);
            int list = end == 18 ? 1 : 0;
            dueCost(3 + list, end, 1, 1, n -> {
                int key = x.key(x.basic(0), false);
                x.then(key, key);
                return after(n, x.range(0, 1));
            });
            anew();
            int f = x.basic(0);
            int key = x.key(f, false);
            int p = after(598, x.range(0, 1));
            c.due("fails 9 at -1 given 0", Kit.run(x, p, end, x.then(key, key), 1));
            c.due(1, x.calls(f));
        }
    }

    private static int mapped(int steps, int code, int value) {
        return x.stage(after(steps, Kit.row(x, value)), 12, x.basic(code), 0);
    }

    private static int zipped(int steps, int code, int value, int second) {
        return x.both(after(steps, Kit.row(x, value)), Kit.row(x, second), 9, x.basic(code));
    }

    private static void listsOfFunctions() {
        c.about("STEPS: 1 for each element of a LIST that is made, by 13 and 21 all");
        dueCost(2, 0, 0, 0, n -> mapped(n, 13, x.word(0)));
        dueCost(3, 0, 0, 0, n -> mapped(n, 13, x.word(1)));
        dueCost(14, 0, 0, 0, n -> mapped(n, 13, Kit.word(x, "abcdefghijkl")));
        dueCost(2, 0, 0, 0, n -> mapped(n, 21, 0));
        dueCost(5, 0, 0, 0, n -> mapped(n, 21, Kit.times(x, one, 3)));
        dueCost(42, 0, 0, 0, n -> mapped(n, 21, Kit.times(x, one, 40)));
        c.about("STEPS: by 23 and 46 one");
        dueCost(3, 0, 0, 0, n -> mapped(n, 23, one));
        dueCost(3, 0, 0, 0, n -> mapped(n, 23, Kit.times(x, one, 3)));
        dueCost(4, 0, 0, 0, n -> zipped(n, 46, one, 0));
        dueCost(4, 0, 0, 0, n -> zipped(n, 46, one, Kit.times(x, one, 39)));
        c.about("STEPS: by 47 those of x");
        dueCost(3, 0, 0, 0, n -> zipped(n, 47, 0, Kit.times(x, one, 5)));
        dueCost(8, 0, 0, 0, n -> zipped(n, 47, Kit.times(x, one, 5), 0));
        dueCost(6, 0, 0, 0, n -> zipped(n, 47, Kit.times(x, one, 3), Kit.times(x, one, 5)));
        dueCost(43, 0, 0, 0, n -> zipped(n, 47, Kit.times(x, one, 40), 0));
        c.about("STEPS: a LIST that there are too few for isn't made, but its CALL was counted");
        anew();
        int bad = mapped(595, 21, Kit.times(x, one, 5));
        c.due("fails 9 at " + bad + " given 0", Kit.run(x, bad, 0, 0, 0));
        c.due(1, x.count(5));
        c.due(600, x.count(4));
    }

    private static void noListNoSteps() {
        c.about("STEPS: none for the LIST that 20 gives, nor for PAIRS");
        dueCost(2, 0, 0, 0, n -> mapped(n, 20, Kit.times(x, one, 5)));
        dueCost(2, 0, 0, 0, n -> mapped(n, 17, x.pair(one, one)));
        dueCost(2, 0, 0, 0, n -> mapped(n, 26, one));
        dueCost(3, 0, 0, 0, n -> zipped(n, 45, one, one));
        c.about("STEPS: none for a LIST that was there already");
        dueCost(2, 0, 0, 0, n -> mapped(n, 19, Kit.list(x, Kit.times(x, one, 5))));
        dueCost(2, 0, 0, 0, n -> mapped(n, 15, x.pair(Kit.times(x, one, 5), one)));
        dueCost(3, 0, 0, 0, n -> zipped(n, 49, Kit.times(x, one, 5), one));
    }

    /** What a FUNCTION of two FAILS by with so many STEPS left for its LIST. */
    private static int failureWith(int left, int code, int manyOfX, int manyOfY) {
        anew();
        int first = Kit.times(x, 0, manyOfX);
        int second = Kit.times(x, 0, manyOfY);
        int p = zipped(597 - left, code, first, second);
        x.run(p, 0, 0, 0);
        return x.failure(0);
    }

    private static void aheadOfSize() {
        c.about("STEPS: ahead of SIZE");
        c.due(9, failureWith(0, 46, 1, 40));
        c.due(4, failureWith(1, 46, 1, 40));
        c.due(0, failureWith(1, 46, 1, 39));
        c.due(9, failureWith(20, 47, 21, 20));
        c.due(4, failureWith(21, 47, 21, 20));
        c.due(9, failureWith(19, 47, 20, 21));
        c.due(4, failureWith(20, 47, 20, 21));
        c.due(0, failureWith(20, 47, 20, 20));
        c.about("STEPS: ahead of SIZE, of a stage");
        for (int left = 1; left <= 2; left++) {
            anew();
            int heavy = x.cons(0, Kit.heavy(x, 49));
            int two = x.both(Kit.only(x, heavy), Kit.only(x, heavy), 8, 0);
            int w = x.stage(after(598 - left, two), 22, 0, 2);
            c.due("fails " + (left == 1 ? 9 : 4) + " at " + w + " given 0", Kit.run(x, w, 0, 0, 0));
            c.due(600, x.count(4));
        }
        c.about("STEPS: ahead of SIZE, of an end");
        for (int left = 33; left <= 34; left++) {
            anew();
            int pairs = x.stage(x.range(0, 35), 24, 0, 0);
            c.due(left == 33 ? -109 : -104, x.run(after(565 - left, pairs), 10, 0, 0));
            c.due(600, x.count(4));
        }
    }

    private static void listsOfStages() {
        c.about("STEPS: by stages all");
        for (int a = 1; a <= 10; a += 3) {
            int wide = a;
            dueCost(2 * a, 0, 0, 0, n -> x.stage(after(n, x.range(0, wide)), 22, 0, wide));
            dueCost(2 * a, 0, 0, 0, n -> x.stage(after(n, x.range(0, wide)), 23, 0, wide));
            dueCost(2 * a, 0, 0, 0, n -> x.stage(after(n, x.range(0, wide)), 23, 0, 10));
        }
        dueCost(4 + 6, 0, 0, 0, n -> x.stage(after(n, x.range(0, 4)), 22, 0, 3));
        dueCost(9, 0, 0, 0, n -> x.stage(after(n, x.range(0, 3)), 26, x.basic(24), 0));
        dueCost(120, 0, 0, 0, n -> x.stage(after(n, x.range(0, 40)), 26, x.basic(24), 0));
        c.about("STEPS: of stages FAIL AT them");
        int[] sorts = {22, 23, 26};
        for (int sort : sorts) {
            anew();
            int f = x.basic(5);
            int p = after(600 - (sort == 26 ? 8 : 5), x.range(0, 3));
            int s = x.stage(p, sort, f, 1);
            c.due("fails 9 at " + s + " given 2", Kit.run(x, s, 0, 0, 0));
        }
    }

    private static void pairsCostNothing() {
        c.about("STEPS: none by BESIDE, nor by those that give what came");
        dueCost(2, 0, 0, 0, n -> x.stage(after(n, x.range(0, 2)), 24, 0, 0));
        int[] sorts = {15, 16, 19, 20, 21, 29, 30};
        for (int sort : sorts) {
            dueCost(3, 0, 0, 0, n -> x.stage(after(n, x.range(0, 3)), sort, -1, sort == 15 ? 1 : 3));
        }
    }

    private static void listsOfEnds() {
        c.about("STEPS: by ends all");
        for (int n = 1; n <= 40; n += 13) {
            int many = n;
            dueCost(2 * n, 10, 0, 0, steps -> after(steps, x.range(0, many)));
            dueCost(2 * n, 13, 0, 0, steps -> after(steps, x.range(0, many)));
        }
        dueCost(3 + 1, 13, 0, 0, n -> after(n, Kit.row(x, one, one, one)));
        dueCost(1 + 4, 17, 0, 0, n -> after(n, x.range(0, 1)));
        dueCost(9 + 4, 17, 0, 0, n -> after(n, x.range(0, 9)));
        dueCost(12 + 10, 18, -1, 10, n -> after(n, x.range(0, 12)));
        dueCost(12 + 1, 18, -1, 1, n -> after(n, x.range(0, 12)));
        dueCost(3 + 3, 18, -1, 10, n -> after(n, x.range(0, 3)));
        c.about("STEPS: of ends FAIL AT -1");
        int[] ends = {10, 13, 17, 18};
        for (int end : ends) {
            anew();
            int cost = 3 + (end == 17 ? 4 : 3);
            c.due("fails 9 at -1 given 0", Kit.run(x, after(601 - cost, x.range(0, 3)), end, -1, 3));
        }
    }

    private static void listsOfNone() {
        c.about("STEPS: an empty LIST takes none");
        int[] ends = {10, 13, 18};
        for (int end : ends) {
            anew();
            c.due("[]", Kit.run(x, after(600, x.range(0, 0)), end, -1, 1));
            c.due(600, x.count(4));
        }
        anew();
        int f = x.basic(5);
        c.due("[]", Kit.run(x, after(600, x.range(0, 0)), 14, f, 0));
        c.due("([], [])", Kit.run(x, after(600, x.range(0, 0)), 15, f, 0));
        c.about("STEPS: of none END 17 makes a LIST of two");
        dueCost(2, 17, 0, 0, n -> after(n, x.range(0, 0)));
    }

    private static void groupsOfEnd() {
        c.about("STEPS: END 14, those in the PAIRS first, then the LIST of these");
        dueCost(3 + 3 + 3 + 2, 14, 0, 0, n -> {
            x.basic(5);
            return after(n, x.range(0, 3));
        });
        dueCost(3 + 3 + 3 + 3, 14, 0, 0, n -> {
            x.basic(0);
            return after(n, x.range(0, 3));
        });
    }

    private static void partsOfEnd() {
        c.about("STEPS: END 15, both LISTS");
        dueCost(3 + 3 + 3, 15, 0, 0, n -> {
            x.basic(5);
            return after(n, x.range(0, 3));
        });
    }

    private static void whatNeedsNone() {
        c.about("STEPS: with all taken, what needs none goes on");
        anew();
        int p = x.range(0, 600);
        int[] ends = {0, 1, 3, 4, 5, 11, 19};
        for (int end : ends) {
            c.due(0, x.run(p, end, -1, 599));
        }
        int opened = x.guard(p, 6, 3);
        c.due("600", Kit.run(x, opened, 0, 0, 0));
        int failing = x.guard(x.range(0, 0), 7, 0);
        int rescued = x.stage(after(600, failing), 27, 0, one);
        c.due("1", Kit.run(x, rescued, 0, 0, 0));
        c.due(600, x.count(4));
        int windows = x.stage(after(600, x.range(0, 0)), 22, 0, 3);
        c.due("0", Kit.run(x, windows, 0, 0, 0));
    }

    private static void eachRunAnew() {
        c.about("STEPS: each RUN has 600, whatever the one before took");
        anew();
        int bad = x.range(0, 601);
        int right = x.range(0, 600);
        for (int i = 0; i < 3; i++) {
            c.due(-109, x.run(bad, 0, 0, 0));
            c.due(600, x.count(4));
            c.due("600", Kit.run(x, right, 0, 0, 0));
            c.due(600, x.count(4));
        }
        c.due(3600, x.count(6));
    }

    private static void closing() {
        c.about("STEPS: closing takes none, and a failed one is SUPPRESSED behind STEPS");
        anew();
        int source = x.range(0, 601);
        int opened = x.guard(source, 6, -2);
        c.due("fails 9 at " + source + " given 600", Kit.run(x, opened, 0, 0, 0));
        c.due(1, x.failure(3));
        c.due(1, x.failure(4));
        int right = x.guard(x.range(0, 600), 6, -2);
        c.due("fails 8 at " + right + " given 600", Kit.run(x, right, 0, 0, 0));
        c.due(600, x.count(4));
    }

    /** An object whose RUNS have taken so many STEPS, 400 to 16000; PIPELINE 0 is 400 long. */
    private static StageConveyor taken(int steps) {
        StageConveyor o = new StageConveyor();
        int p = o.range(0, 400);
        for (int i = 0; i < steps / 400; i++) {
            o.run(p, 0, 0, 0);
        }
        o.run(o.range(0, steps % 400), 0, 0, 0);
        return o;
    }

    private static void sixteenThousand() {
        c.about("promise 20: -6, all RUNS have taken 16000 STEPS or more");
        x = taken(15999);
        c.due(15999, x.count(6));
        c.due(0, x.run(0, 0, 0, 0));
        c.due(16399, x.count(6));
        c.due(-6, x.run(0, 0, 0, 0));
        c.due(-6, x.run(x.range(0, 0), 0, 0, 0));
        c.due(-6, x.foretell(0, 0, 0, 0));
        c.due(-6, x.equal(0, 0, 0, 0, 0));
        c.due(16399, x.count(6));
        c.due("400", Kit.result(x));
        x = taken(16000);
        c.due(16000, x.count(6));
        c.due(-6, x.run(0, 0, 0, 0));
        c.about("promise 20: a RUN that began with some left has all its 600");
        x = taken(15999);
        c.due("600", Kit.run(x, x.range(0, 600), 0, 0, 0));
        c.due(16599, x.count(6));
        c.about("promise 20: one that FAILS STEPS has taken 600 of all");
        x = taken(15400);
        c.due(-109, x.run(x.range(0, 601), 0, 0, 0));
        c.due(16000, x.count(6));
        c.due(-6, x.run(0, 0, 0, 0));
        c.about("promise 20: building goes on, and asking");
        c.due(1, x.whole(1));
        c.due(600, x.count(4));
        c.due(9, x.failure(0));
        c.due(0, x.undo());
    }

    private static void foretoldOnes() {
        c.about("promise 21: its STEPS are taken from all");
        x = taken(15999);
        c.due(0, x.foretell(0, 0, 0, 0));
        c.due(16399, x.count(6));
        c.due(-6, x.foretell(0, 0, 0, 0));
        c.due(-6, x.run(0, 0, 0, 0));
        x = taken(15400);
        c.due(-109, x.foretell(x.range(0, 601), 0, 0, 0));
        c.due(16000, x.count(6));
        c.due(200, x.count(4));
        c.due(-6, x.foretell(0, 0, 0, 0));
        x = taken(16000);
        c.due(-6, x.foretell(0, 0, 0, 0));
    }

    private static void equalOnes() {
        c.about("promise 22: -6 by what all RUNS had taken ahead of p's");
        x = taken(15999);
        int long600 = x.range(0, 600);
        c.due(1, x.equal(long600, long600, 0, 0, 0));
        c.due(17199, x.count(6));
        c.due(-6, x.equal(long600, long600, 0, 0, 0));
        x = taken(16000);
        c.due(-6, x.equal(0, 0, 0, 0, 0));
        c.about("promise 22: each of both has 600");
        x = new StageConveyor();
        int p = x.range(0, 600);
        int q = x.range(0, 601);
        c.due(1, x.equal(p, p, 0, 0, 0));
        c.due(0, x.equal(p, q, 0, 0, 0));
        c.due(0, x.equal(q, p, 0, 0, 0));
        c.due(1, x.equal(q, q, 0, 0, 0));
        c.due(8 * 600, x.count(6));
        c.due(0, x.count(4));
    }
}
