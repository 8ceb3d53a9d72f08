/** The edges of FUNCTIONS: each CODE's, those put together, and promises 7 to 10. */
public final class EdgeFunctionTest {
    private static final Check c = new Check("EdgeFunctionTest");
    private static final long MAX = Long.MAX_VALUE;
    private static final long MIN = Long.MIN_VALUE;
    private static StageConveyor x;

    public static void main(String[] args) {
        codes();
        sixtieth();
        ofOneLong();
        nearestReal();
        cutToLong();
        ofOneReal();
        ofOneWord();
        ofOnePair();
        ofOneList();
        sumOfOthers();
        ofAny();
        flaky();
        ofTwoLongs();
        byNought();
        ofTwoReals();
        ofTwoWords();
        ofLists();
        elementAt();
        oneOrTheOther();
        listsTooLarge();
        pairsTooLarge();
        deepOnes();
        kindsOfOne();
        kindsOfTwo();
        firstLookedAtFirst();
        kindAheadOfAllElse();
        behind();
        behindRefused();
        bound();
        boundRefused();
        exchanged();
        sizes();
        counted();
        holds();
        c.finish();
    }

    private static String of(int code, int value) {
        return Kit.call(x, x.basic(code), value);
    }

    private static String of(int code, int value, int second) {
        return Kit.call(x, x.basic(code), value, second);
    }

    private static void codes() {
        c.about("promise 7: -2, no such CODE");
        x = new StageConveyor();
        int[] none = {-1, 29, 51, 52, 100, Integer.MAX_VALUE, Integer.MIN_VALUE};
        for (int code : none) {
            c.due(-2, x.basic(code));
        }
        c.due(0, x.count(1));
        c.due(0, x.count(7));
        int[] edges = {0, 28, 30, 50};
        for (int i = 0; i < edges.length; i++) {
            c.due(i, x.basic(edges[i]));
        }
    }

    /** Each way to make a FUNCTION makes the 60th, and no 61st. */
    private static void sixtieth() {
        c.about("promises 7 to 10: -4, 60 FUNCTIONS are there");
        Check.Answer[] makers = {o -> o.basic(7), o -> o.behind(0, 0), o -> o.bind(1, 1, true), o -> o.bind(1, 1, false),
            o -> o.exchange(1)};
        for (Check.Answer maker : makers) {
            StageConveyor o = new StageConveyor();
            o.whole(1);
            o.basic(0);
            o.basic(30);
            for (int i = 2; i < 59; i++) {
                c.due(i, o.basic(2));
            }
            c.due(59, maker.of(o));
            c.due(-4, maker.of(o));
            c.due(60, o.count(1));
            c.due(61, o.count(7));
            c.due(1, o.undo());
            c.due(59, maker.of(o));
        }
    }

    /** What a FUNCTION of one LONG gives of each. */
    private static void dueOfLongs(int code, long[] of, Object[] due) {
        x = new StageConveyor();
        int f = x.basic(code);
        for (int i = 0; i < of.length; i++) {
            c.due(due[i].toString(), Kit.call(x, f, x.whole(of[i])));
        }
    }

    private static void ofOneLong() {
        c.about("CODE 0: negated");
        dueOfLongs(0, new long[] {0, 1, -1, MAX, MIN, MIN + 1}, new Object[] {0, -1, 1, -MAX, MIN, MAX});
        c.about("CODE 1: without its sign");
        dueOfLongs(1, new long[] {0, 1, -1, MAX, MIN, MIN + 1}, new Object[] {0, 1, 1, MAX, MIN, MAX});
        c.about("CODE 2: squared, wraps");
        dueOfLongs(2, new long[] {0, -1, 3037000499L, 3037000500L, -3037000500L, 1L << 32, MAX, MIN},
                new Object[] {0, 1, 9223372030926249001L, -9223372036709301616L, -9223372036709301616L, 0, 1, 0});
        c.about("CODE 3: halved, cut towards 0");
        dueOfLongs(3, new long[] {0, 1, -1, 2, -2, 3, -3, MAX, MIN},
                new Object[] {0, 0, 0, 1, -1, 1, -1, MAX / 2, -4611686018427387904L});
        c.about("CODE 4: how many of its 64 bits are 1");
        dueOfLongs(4, new long[] {0, 1, -1, MAX, MIN, 1L << 32}, new Object[] {0, 1, 64, 63, 1, 1});
        c.about("CODE 5: whether it is even");
        dueOfLongs(5, new long[] {0, 1, -1, 2, -2, MAX, MIN}, new Object[] {1, 0, 0, 1, 1, 0, 1});
        c.about("CODE 6: whether it is above 0");
        dueOfLongs(6, new long[] {0, 1, -1, 2, MAX, MIN}, new Object[] {0, 1, 0, 1, 1, 0});
    }

    private static void nearestReal() {
        c.about("CODE 7: the nearest REAL, of two the even one");
        long two53 = 1L << 53;
        dueOfLongs(7, new long[] {0, -1, two53, two53 + 1, two53 + 2, two53 + 3, -two53 - 1, -two53 - 3},
                new Object[] {0.0, -1.0, 9007199254740992.0, 9007199254740992.0, 9007199254740994.0,
                    9007199254740996.0, -9007199254740992.0, -9007199254740996.0});
        dueOfLongs(7, new long[] {MAX, MIN, MAX - 511, MAX - 512, MIN + 1},
                new Object[] {9223372036854775808.0, -9223372036854775808.0, 9223372036854775808.0,
                    9223372036854774784.0, -9223372036854775808.0});
    }

    private static void dueOfReals(int code, double[] of, Object[] due) {
        x = new StageConveyor();
        int f = x.basic(code);
        for (int i = 0; i < of.length; i++) {
            c.due(due[i].toString(), Kit.call(x, f, x.real(of[i])));
        }
    }

    private static void cutToLong() {
        c.about("CODE 8: cut towards 0");
        dueOfReals(8, new double[] {0.0, 0.9, -0.9, 1.0, -1.0, 1.9, -1.9}, new Object[] {0, 0, 0, 1, -1, 1, -1});
        c.about("CODE 8: FAILS RANGE if it is 9223372036854775808.0 or more");
        double two63 = 9223372036854775808.0;
        dueOfReals(8, new double[] {Math.nextDown(two63), two63, Math.nextUp(two63), 1e300, Double.MAX_VALUE},
                new Object[] {9223372036854774784L, "fails 5", "fails 5", "fails 5", "fails 5"});
        c.about("CODE 8: FAILS RANGE below the negative of that");
        dueOfReals(8, new double[] {-two63, -Math.nextUp(two63), -1e300, -Double.MAX_VALUE},
                new Object[] {MIN, "fails 5", "fails 5", "fails 5"});
    }

    private static void ofOneReal() {
        c.about("CODE 9: negated");
        dueOfReals(9, new double[] {0.0, 1.5, -1.5, Double.MAX_VALUE, Double.MIN_VALUE},
                new Object[] {0.0, -1.5, 1.5, -Double.MAX_VALUE, -Double.MIN_VALUE});
        c.about("CODE 10: halved");
        dueOfReals(10, new double[] {0.0, 1.0, -1.0, Double.MAX_VALUE, Double.MIN_VALUE, -Double.MIN_VALUE,
            2 * Double.MIN_VALUE, 3 * Double.MIN_VALUE, 5 * Double.MIN_VALUE},
                new Object[] {0.0, 0.5, -0.5, Double.MAX_VALUE / 2, 0.0, 0.0,
                    Double.MIN_VALUE, 2 * Double.MIN_VALUE, 2 * Double.MIN_VALUE});
    }

    private static void ofOneWord() {
        String full = "abcdefghijkz";
        c.about("CODE 11: how many letters");
        x = new StageConveyor();
        int none = x.word(0);
        int one = Kit.word(x, "q");
        int most = Kit.word(x, full);
        c.due("0", of(11, none));
        c.due("1", of(11, one));
        c.due("12", of(11, most));
        c.about("CODE 12: turned round");
        c.due("\"\"", of(12, none));
        c.due("\"q\"", of(12, one));
        c.due("\"zkjihgfedcba\"", of(12, most));
        c.about("CODE 13: its letters");
        c.due("[]", of(13, none));
        c.due(2, x.count(4));
        c.due("[\"q\"]", of(13, one));
        c.due(3, x.count(4));
        c.due("[\"a\", \"b\", \"c\", \"d\", \"e\", \"f\", \"g\", \"h\", \"i\", \"j\", \"k\", \"z\"]", of(13, most));
        c.due(14, x.count(4));
        c.about("CODE 14: FAILS BOUNDS without one");
        c.due("fails 3", of(14, none));
        c.due("\"q\"", of(14, one));
        c.due("\"a\"", of(14, most));
    }

    private static void ofOnePair() {
        c.about("CODES 15 to 17: parts, exchanged");
        x = new StageConveyor();
        int one = x.whole(1);
        int pair = x.pair(one, 0);
        int nested = x.pair(pair, one);
        c.due("1", of(15, pair));
        c.due("[]", of(16, pair));
        c.due("([], 1)", of(17, pair));
        c.due("(1, [])", of(15, nested));
        c.due("(1, (1, []))", of(17, nested));
        c.about("CODE 17: of the largest there is");
        x = new StageConveyor();
        int heavy = x.pair(Kit.heavy(x, 98), 0);
        c.due("([], [1", Kit.run(x, x.stage(Kit.only(x, heavy), 12, x.basic(17), 0), 5, 0, 0).substring(0, 7));
        x = new StageConveyor();
        int deep = Kit.deep(x, 10);
        c.due("(1, (((", Kit.run(x, x.stage(Kit.only(x, deep), 12, x.basic(17), 0), 5, 0, 0).substring(0, 7));
    }

    private static void ofOneList() {
        x = new StageConveyor();
        int one = Kit.longs(x, 7);
        int full = Kit.times(x, x.whole(3), 40);
        c.about("CODE 18: how many elements");
        c.due("0", of(18, 0));
        c.due("1", of(18, one));
        c.due("40", of(18, full));
        c.about("CODE 19: FAILS BOUNDS without one");
        c.due("fails 3", of(19, 0));
        c.due("7", of(19, one));
        c.due("3", of(19, full));
        c.about("CODE 20: all but the first, FAILS BOUNDS without one");
        c.due("fails 3", of(20, 0));
        c.due("[]", of(20, one));
        c.due(2, x.count(4));
        int rest = x.behind(x.basic(18), x.basic(20));
        c.due("39", Kit.call(x, rest, full));
        c.due(4, x.count(4));
        c.about("CODE 21: turned round");
        c.due("[]", of(21, 0));
        c.due(2, x.count(4));
        c.due("[7]", of(21, one));
        c.due(3, x.count(4));
        c.due("40", Kit.call(x, x.behind(x.basic(18), x.basic(21)), full));
        c.due(44, x.count(4));
        c.about("CODE 22: the sum of its LONGS, wraps");
        c.due("0", of(22, 0));
        c.due("7", of(22, one));
        c.due("120", of(22, full));
        x = new StageConveyor();
        c.due("-9223372036854775808", of(22, Kit.longs(x, MAX, 1)));
        c.due("9223372036854775807", of(22, Kit.longs(x, MIN, -1)));
        c.due("-2", of(22, Kit.longs(x, MAX, MAX)));
    }

    private static void sumOfOthers() {
        c.about("CODE 22: FAILS KIND at another element");
        x = new StageConveyor();
        int one = x.whole(1);
        int[] others = {x.real(1.0), x.word(1), x.pair(one, one), 0};
        for (int other : others) {
            c.due("fails 1", of(22, Kit.list(x, other)));
            c.due("fails 1", of(22, Kit.list(x, one, one, other)));
            c.due("fails 1", of(22, Kit.list(x, other, one)));
        }
    }

    private static void ofAny() {
        c.about("CODE 23: the LIST of just it, one STEP");
        x = new StageConveyor();
        c.due("[[]]", of(23, 0));
        c.due(3, x.count(4));
        c.about("CODE 24: its KIND");
        int[] kinds = {x.whole(1), x.real(1.0), x.word(1), x.pair(0, 0), 0};
        for (int i = 0; i < 5; i++) {
            c.due(Integer.toString(i), of(24, kinds[i]));
        }
        c.about("CODE 26: the PAIR of it and it, no STEP");
        c.due("([], [])", of(26, 0));
        c.due(2, x.count(4));
        c.about("CODE 28: its WEIGHT");
        c.due("1", of(28, 0));
        c.due("3", of(28, kinds[3]));
        x = new StageConveyor();
        c.due("100", Kit.run(x, x.stage(Kit.only(x, Kit.heavy(x, 100)), 12, x.basic(28), 0), 5, 0, 0));
    }

    private static void flaky() {
        c.about("CODE 27: FAILS FLAKY at each call whose number isn't divided by 3");
        x = new StageConveyor();
        int f = x.basic(27);
        int p = x.range(0, 4);
        for (int again = 1; again <= 3; again++) {
            int tried = x.stage(p, 28, f, again);
            String due = again < 2 ? "fails 7 at " + tried + " given 0" : "[0, 1, 2, 3]";
            c.due(due, Kit.all(x, tried));
            c.due(again < 2 ? 2 : 12, x.calls(f));
        }
        c.about("CODE 27: the number of the calls in a run, of this FUNCTION");
        // 2 calls in RUNS before this one make no third
        c.due("fails 7", Kit.call(x, f, 0));
        c.due("fails 7", Kit.call(x, f, 0));
        c.due("fails 7", Kit.call(x, f, 0));
        int other = x.basic(27);
        int both = x.stage(x.stage(p, 28, f, 2), 12, other, 0);
        c.due("fails 7 at " + both + " given 0", Kit.all(x, both));
        c.due(3, x.calls(f));
        c.due(1, x.calls(other));
        c.about("CODE 27: it itself, whatever comes");
        int list = x.stage(Kit.row(x, x.real(0.5), x.word(1), x.pair(0, 0), 0), 28, f, 2);
        c.due("[0.5, \"a\", ([], []), []]", Kit.all(x, list));
    }

    private static String ofTwo(int code, long v, long w) {
        x = new StageConveyor();
        return of(code, x.whole(v), x.whole(w));
    }

    private static void ofTwoLongs() {
        c.about("CODES 30 to 32 wrap");
        c.due("-9223372036854775808", ofTwo(30, MAX, 1));
        c.due("9223372036854775807", ofTwo(30, MIN, -1));
        c.due("-1", ofTwo(30, MAX, MIN));
        c.due("9223372036854775807", ofTwo(31, MIN, 1));
        c.due("-9223372036854775808", ofTwo(31, MAX, -1));
        c.due("-9223372036854775808", ofTwo(31, 0, MIN));
        c.due("-2", ofTwo(32, MAX, 2));
        c.due("-9223372036854775808", ofTwo(32, MIN, -1));
        c.due("0", ofTwo(32, 1L << 32, 1L << 32));
        c.about("CODE 35: whether x is below y");
        c.due("0", ofTwo(35, 1, 1));
        c.due("1", ofTwo(35, 0, 1));
        c.due("0", ofTwo(35, 1, 0));
        c.due("1", ofTwo(35, MIN, MAX));
        c.due("0", ofTwo(35, MAX, MIN));
        c.about("CODES 36, 37: the lesser, the greater one");
        c.due("-9223372036854775808", ofTwo(36, MIN, MAX));
        c.due("-9223372036854775808", ofTwo(36, MAX, MIN));
        c.due("4", ofTwo(36, 4, 4));
        c.due("9223372036854775807", ofTwo(37, MIN, MAX));
        c.due("9223372036854775807", ofTwo(37, MAX, MIN));
        c.due("4", ofTwo(37, 4, 4));
    }

    private static void byNought() {
        c.about("CODE 33: cut towards 0, FAILS ZERO for y 0");
        c.due("3", ofTwo(33, 7, 2));
        c.due("-3", ofTwo(33, -7, 2));
        c.due("-3", ofTwo(33, 7, -2));
        c.due("3", ofTwo(33, -7, -2));
        c.due("0", ofTwo(33, 0, 5));
        c.due("-9223372036854775808", ofTwo(33, MIN, -1));
        c.due("fails 2", ofTwo(33, 7, 0));
        c.due("fails 2", ofTwo(33, 0, 0));
        c.about("CODE 34: what is left by that, FAILS ZERO for y 0");
        c.due("1", ofTwo(34, 7, 2));
        c.due("-1", ofTwo(34, -7, 2));
        c.due("1", ofTwo(34, 7, -2));
        c.due("-1", ofTwo(34, -7, -2));
        c.due("0", ofTwo(34, MIN, -1));
        c.due("fails 2", ofTwo(34, 7, 0));
        c.due("fails 2", ofTwo(34, 0, 0));
    }

    private static String ofTwoReal(int code, double v, double w) {
        x = new StageConveyor();
        return of(code, x.real(v), x.real(w));
    }

    private static void ofTwoReals() {
        double max = Double.MAX_VALUE;
        double halfUlp = 0x1p970;
        c.about("CODE 38: FAILS RANGE if it would be endless");
        c.due(Double.toString(max), ofTwoReal(38, max, Math.nextDown(halfUlp)));
        c.due("fails 5", ofTwoReal(38, max, halfUlp));
        c.due(Double.toString(-max), ofTwoReal(38, -max, -Math.nextDown(halfUlp)));
        c.due("fails 5", ofTwoReal(38, -max, -halfUlp));
        c.due("0.0", ofTwoReal(38, max, -max));
        c.about("CODE 39: FAILS RANGE if it would be endless");
        c.due(Double.toString(0x1p1023), ofTwoReal(39, 0x1p512, 0x1p511));
        c.due("fails 5", ofTwoReal(39, 0x1p512, 0x1p512));
        c.due("fails 5", ofTwoReal(39, -0x1p512, 0x1p512));
        c.due("0.0", ofTwoReal(39, Double.MIN_VALUE, 0.25));
        c.about("CODE 40: FAILS ZERO for y 0");
        c.due("fails 2", ofTwoReal(40, 1.0, 0.0));
        c.due("fails 2", ofTwoReal(40, 0.0, 0.0));
        c.due("fails 2", ofTwoReal(40, -1.0, -0.0));
        c.due("fails 2", ofTwoReal(40, max, 0.0));
        c.about("CODE 40: FAILS RANGE if it would be endless");
        c.due(Double.toString(max), ofTwoReal(40, max, 1.0));
        c.due("fails 5", ofTwoReal(40, max, 0.5));
        c.due("fails 5", ofTwoReal(40, -max, 0.5));
        c.due("fails 5", ofTwoReal(40, 1.0, Double.MIN_VALUE));
        c.due("0.0", ofTwoReal(40, Double.MIN_VALUE, max));
        c.about("CODE 41: whether x is below y");
        c.due("0", ofTwoReal(41, 1.0, 1.0));
        c.due("1", ofTwoReal(41, Math.nextDown(1.0), 1.0));
        c.due("0", ofTwoReal(41, Math.nextUp(1.0), 1.0));
        c.due("0", ofTwoReal(41, 0.0, -0.0));
        c.due("1", ofTwoReal(41, -max, max));
    }

    private static void ofTwoWords() {
        c.about("CODE 42: FAILS SIZE beyond 12");
        String letters = "abcdefghijklm";
        for (int first = 0; first <= 12; first++) {
            x = new StageConveyor();
            int one = Kit.word(x, letters.substring(0, first));
            int rest = Kit.word(x, letters.substring(first, 12));
            c.due("\"abcdefghijkl\"", of(42, one, rest));
            if (first > 0) {
                int more = Kit.word(x, letters.substring(first, 13));
                c.due("fails 4", of(42, one, more));
            }
        }
        x = new StageConveyor();
        int none = x.word(0);
        int full = Kit.word(x, "zzzzzzzzzzzz");
        c.due("\"\"", of(42, none, none));
        c.due("fails 4", of(42, full, full));
        c.due("fails 4", of(42, full, x.word(1)));
        c.due("fails 4", of(42, x.word(1), full));
    }

    private static void ofLists() {
        c.about("CODE 45: the PAIR of x and y");
        x = new StageConveyor();
        int one = x.whole(1);
        c.due("(1, [])", of(45, one, 0));
        c.due("([], 1)", of(45, 0, one));
        c.about("CODE 46: x and then y's, one STEP");
        c.due("[1]", of(46, one, 0));
        c.due(4, x.count(4));
        int two = Kit.longs(x, 7, 8);
        c.due("[1, 7, 8]", of(46, one, two));
        c.due(4, x.count(4));
        c.due("[[7, 8], 7, 8]", of(46, two, two));
        c.about("CODE 47: y's behind x's, those of x are STEPS");
        c.due("[]", of(47, 0, 0));
        c.due(3, x.count(4));
        c.due("[7, 8]", of(47, two, 0));
        c.due(5, x.count(4));
        c.due("[7, 8]", of(47, 0, two));
        c.due(3, x.count(4));
        int three = Kit.longs(x, 4, 5, 6);
        c.due("[4, 5, 6, 7, 8]", of(47, three, two));
        c.due(6, x.count(4));
    }

    private static void elementAt() {
        c.about("CODE 48: FAILS BOUNDS if there is none");
        x = new StageConveyor();
        int list = Kit.longs(x, 10, 11, 12);
        long[] at = {0, 1, 2, 3, -1, MAX, MIN, 1L << 32, (1L << 32) + 1};
        String[] due = {"10", "11", "12", "fails 3", "fails 3", "fails 3", "fails 3", "fails 3", "fails 3"};
        int f = x.basic(48);
        for (int i = 0; i < at.length; i++) {
            c.due(due[i], Kit.call(x, f, list, x.whole(at[i])));
        }
        c.due("fails 3", Kit.call(x, f, 0, x.whole(0)));
        x = new StageConveyor();
        int full = Kit.times(x, 0, 39);
        full = x.cons(x.whole(5), full);
        c.due("5", of(48, full, x.whole(0)));
        c.due("[]", of(48, full, x.whole(39)));
        c.due("fails 3", of(48, full, x.whole(40)));
    }

    private static void oneOrTheOther() {
        c.about("CODES 49, 50: x, y, of any KIND");
        x = new StageConveyor();
        int[] values = {x.whole(1), x.real(0.5), x.word(1), x.pair(0, 0), 0};
        String[] shown = {"1", "0.5", "\"a\"", "([], [])", "[]"};
        int first = x.basic(49);
        int second = x.basic(50);
        for (int i = 0; i < 5; i++) {
            int next = (i + 1) % 5;
            c.due(shown[i], Kit.call(x, first, values[i], values[next]));
            c.due(shown[next], Kit.call(x, second, values[i], values[next]));
        }
    }

    /** What one FUNCTION gives of VALUES that may be the largest: its SIZE alone, or the failure. */
    private static String sizeOf(int f, int value, int second) {
        int how = x.basic(28);
        int p = x.both(Kit.only(x, value), Kit.only(x, second), 9, f);
        int m = x.stage(p, 12, how, 0);
        int answer = x.run(m, 5, 0, 0);
        return answer <= -100 ? "fails " + x.failure(0) : Kit.result(x);
    }

    private static String sizeOf(int f, int value) {
        int m = x.stage(x.stage(Kit.only(x, value), 12, f, 0), 12, x.basic(28), 0);
        int answer = x.run(m, 5, 0, 0);
        return answer <= -100 ? "fails " + x.failure(0) : Kit.result(x);
    }

    private static void listsTooLarge() {
        c.about("CODE 46: a LIST of more than 40 FAILS SIZE");
        x = new StageConveyor();
        int less = Kit.times(x, 0, 39);
        c.due("41", sizeOf(x.basic(46), 0, less));
        int full = x.cons(0, less);
        c.due("fails 4", sizeOf(x.basic(46), 0, full));
        // its STEP is taken ahead of SIZE: 2 elements, 1 CALL, 1 for the LIST
        c.due(4, x.count(4));
        c.about("CODE 47: a LIST of more than 40 FAILS SIZE");
        x = new StageConveyor();
        int twenty = Kit.times(x, 0, 20);
        int more = x.cons(0, twenty);
        int join = x.basic(47);
        c.due("41", sizeOf(join, twenty, twenty));
        c.due("fails 4", sizeOf(join, twenty, more));
        c.due(23, x.count(4));
        c.due("fails 4", sizeOf(join, more, twenty));
        c.due(24, x.count(4));
        c.about("CODES 46, 47: a WEIGHT above 100 FAILS SIZE");
        x = new StageConveyor();
        int heavy = Kit.heavy(x, 99);
        int one = x.cons(0, 0);
        int two = x.cons(0, one);
        c.due("100", sizeOf(x.basic(46), 0, heavy));
        c.due("fails 4", sizeOf(x.basic(46), one, heavy));
        c.due("100", sizeOf(x.basic(47), one, heavy));
        c.due("100", sizeOf(x.basic(47), heavy, one));
        c.due("fails 4", sizeOf(x.basic(47), two, heavy));
        c.due("fails 4", sizeOf(x.basic(47), heavy, two));
        c.about("CODE 23: a WEIGHT above 100 FAILS SIZE");
        c.due("100", sizeOf(x.basic(23), heavy));
        c.due("fails 4", sizeOf(x.basic(23), x.cons(0, heavy)));
        c.due(3, x.count(4));
    }

    private static void pairsTooLarge() {
        c.about("CODE 26: a WEIGHT above 100 FAILS SIZE");
        x = new StageConveyor();
        int light = Kit.heavy(x, 49);
        c.due("99", sizeOf(x.basic(26), light));
        int heavy = x.cons(0, light);
        c.due("fails 4", sizeOf(x.basic(26), heavy));
        c.due(2, x.count(4));
        c.about("CODE 45: a WEIGHT above 100 FAILS SIZE");
        c.due("100", sizeOf(x.basic(45), light, heavy));
        c.due("100", sizeOf(x.basic(45), heavy, light));
        c.due("fails 4", sizeOf(x.basic(45), heavy, heavy));
    }

    private static void deepOnes() {
        c.about("CODES 23, 26, 45 to 47: a DEPTH above 10 FAILS SIZE");
        x = new StageConveyor();
        int nine = Kit.deep(x, 9);
        int ten = x.pair(nine, 0);
        c.due("18", sizeOf(x.basic(23), nine));
        c.due("fails 4", sizeOf(x.basic(23), ten));
        c.due("35", sizeOf(x.basic(26), nine));
        c.due("fails 4", sizeOf(x.basic(26), ten));
        c.due("19", sizeOf(x.basic(45), nine, 0));
        c.due("fails 4", sizeOf(x.basic(45), ten, 0));
        c.due("fails 4", sizeOf(x.basic(45), 0, ten));
        c.due("18", sizeOf(x.basic(46), nine, 0));
        c.due("fails 4", sizeOf(x.basic(46), ten, 0));
        int list = x.cons(nine, 0);
        c.due("35", sizeOf(x.basic(47), list, list));
    }

    /** VALUES of KINDS 0 to 4, with which no CODE but 27 FAILS if it asks for them. */
    private static int[] oneOfEach() {
        int one = x.whole(1);
        return new int[] {one, x.real(1.0), x.word(1), x.pair(one, one), Kit.longs(x, 1, 2)};
    }

    private static final String KINDS = "LRWPSA";
    private static final String[] ASKED = {
        "L", "L", "L", "L", "L", "L", "L", "L", "R", "R", "R", "W", "W", "W", "W", "P", "P", "P", "S", "S", "S",
        "S", "S", "A", "A", "A", "A", "A", "A", "",
        "LL", "LL", "LL", "LL", "LL", "LL", "LL", "LL", "RR", "RR", "RR", "RR", "WW", "AA", "AA", "AA", "AS", "SS",
        "SL", "AA", "AA"};

    private static boolean fits(char asked, int kind) {
        return asked == 'A' || asked == KINDS.charAt(kind);
    }

    private static void kindsOfOne() {
        for (int code = 0; code < 29; code++) {
            c.about("CODE " + code + ": called with another KIND than is asked for it FAILS KIND");
            x = new StageConveyor();
            int[] values = oneOfEach();
            int f = x.basic(code);
            for (int kind = 0; kind < 5; kind++) {
                String answer = Kit.call(x, f, values[kind]);
                boolean right = fits(ASKED[code].charAt(0), kind);
                c.due(!right, answer.equals("fails 1"));
                c.due(right && code != 27, !answer.startsWith("fails"));
                c.due(1, x.count(5));
            }
        }
    }

    private static void kindsOfTwo() {
        for (int code = 30; code <= 50; code++) {
            c.about("CODE " + code + ": called with another KIND than is asked for it FAILS KIND");
            for (int kind = 0; kind < 5; kind++) {
                x = new StageConveyor();
                int[] values = oneOfEach();
                int f = x.basic(code);
                for (int other = 0; other < 5; other++) {
                    String answer = Kit.call(x, f, values[kind], values[other]);
                    boolean right = fits(ASKED[code].charAt(0), kind) && fits(ASKED[code].charAt(1), other);
                    c.due(right ? 0 : 1, answer.equals("fails 1") ? 1 : 0);
                    c.due(right ? 0 : 1, answer.startsWith("fails") ? 1 : 0);
                    c.due(1, x.count(5));
                }
            }
        }
    }

    private static void firstLookedAtFirst() {
        c.about("a FUNCTION put together FAILS KIND itself, ahead of those that it calls");
        x = new StageConveyor();
        int ab = Kit.word(x, "ab");
        int one = x.whole(1);
        int plus = x.basic(30);
        int turned = x.exchange(plus);
        int bound = x.bind(plus, one, true);
        int behind = x.behind(x.basic(0), plus);
        int[] of = {turned, behind};
        for (int f : of) {
            c.due("fails 1", Kit.call(x, f, ab, one));
            c.due(Integer.toString(f), Kit.calls(x));
            c.due("fails 1", Kit.call(x, f, one, ab));
            c.due(Integer.toString(f), Kit.calls(x));
        }
        c.due("fails 1", Kit.call(x, bound, ab));
        c.due(Integer.toString(bound), Kit.calls(x));
    }

    private static void kindAheadOfAllElse() {
        c.about("FAILS KIND, all ahead of what is told here");
        x = new StageConveyor();
        int nought = x.whole(0);
        int ab = Kit.word(x, "ab");
        int real = x.real(0.0);
        c.due("fails 1", of(33, ab, nought));
        c.due("fails 1", of(34, real, nought));
        c.due("fails 1", of(40, nought, real));
        c.due("fails 1", of(48, 0, real));
        c.due("fails 1", of(48, nought, x.whole(9)));
        int full = Kit.times(x, 0, 40);
        c.due("fails 1", of(47, full, nought));
        c.due("fails 1", of(46, full, nought));
    }

    private static void behind() {
        c.about("promise 8: f BEHIND g calls g, then f with its answer");
        x = new StageConveyor();
        int letters = x.basic(11);
        int squared = x.basic(2);
        int join = x.basic(42);
        int f = x.behind(squared, x.behind(letters, join));
        c.due(4, f);
        c.due("25", Kit.call(x, f, Kit.word(x, "abc"), Kit.word(x, "de")));
        c.due("4 3 2 0 1", Kit.calls(x));
        c.due(2, x.shape(f, 0));
        c.due(2, x.shape(f, 1));
        c.due(2, x.shape(f, 2));
        c.due(0, x.shape(f, 3));
        c.due(5, x.shape(f, 4));
        c.about("promise 8: ANY FITS");
        int[] any = {x.basic(15), x.basic(19), x.basic(48), x.basic(49), x.basic(50), x.basic(27)};
        for (int g : any) {
            c.due(1, x.behind(letters, g) > 0 ? 1 : 0);
            c.due(1, x.behind(squared, g) > 0 ? 1 : 0);
        }
        c.due(1, x.behind(x.basic(24), squared) > 0 ? 1 : 0);
        c.about("promise 8: an answer of another KIND FAILS KIND, and f is called");
        int h = x.behind(letters, any[0]);
        c.due("fails 1", Kit.call(x, h, x.pair(0, 0)));
        c.due(h + " " + any[0] + " " + letters, Kit.calls(x));
    }

    private static void behindRefused() {
        c.about("promise 8: -2, no such FUNCTION, or f not of one argument");
        x = new StageConveyor();
        int one = x.basic(0);
        int two = x.basic(30);
        int[] none = {-1, 2, 3, 60, Integer.MAX_VALUE, Integer.MIN_VALUE};
        for (int f : none) {
            c.due(-2, x.behind(f, one));
            c.due(-2, x.behind(one, f));
        }
        c.due(-2, x.behind(two, one));
        c.due(-2, x.behind(two, two));
        c.about("promise 8: -3, f's with g's answer");
        char[] asked = {'L', 'R', 'W', 'P', 'S', 'A'};
        int[] asking = {0, 9, 11, 15, 18, 24};
        int[] giving = {0, 7, 12, 17, 20, 15};
        for (int i = 0; i < 6; i++) {
            x = new StageConveyor();
            int f = x.basic(asking[i]);
            for (int kind = 0; kind < 6; kind++) {
                int g = x.basic(giving[kind]);
                boolean right = kind == 5 || fits(asked[i], kind);
                c.due(right ? g + 1 : -3, x.behind(f, g));
            }
        }
    }

    private static void bound() {
        c.about("promise 9: BOUND to a VALUE as its first, or second, argument");
        x = new StageConveyor();
        int minus = x.basic(31);
        int ten = x.whole(10);
        int first = x.bind(minus, ten, false);
        int second = x.bind(minus, ten, true);
        int three = x.whole(3);
        c.due("7", Kit.call(x, first, three));
        c.due(first + " " + minus, Kit.calls(x));
        c.due(94, x.argument(0, false));
        c.dueThrow(() -> x.argument(0, true));
        c.due(311, x.argument(1, false));
        c.due(94, x.argument(1, true));
        c.due("-7", Kit.call(x, second, three));
        c.due(94, x.argument(1, false));
        c.due(311, x.argument(1, true));
        c.about("promise 9: what is left to ask for");
        int element = x.basic(48);
        int of = x.bind(element, ten, true);
        int at = x.bind(element, 0, false);
        c.due("1 4 -1 5 2", shape(of));
        c.due("1 0 -1 5 2", shape(at));
        c.about("promise 9: a FUNCTION that was put together can be BOUND");
        int behind = x.behind(x.basic(0), minus);
        c.due("-7", Kit.call(x, x.bind(behind, ten, false), three));
        c.due("1 0 -1 0 4", shape(x.bind(behind, ten, false)));
        int turned = x.exchange(element);
        c.due("fails 3", Kit.call(x, x.bind(turned, ten, false), 0));
        c.due("1 4 -1 5 3", shape(x.bind(turned, ten, false)));
    }

    private static String shape(int f) {
        StringBuilder so = new StringBuilder();
        for (int what = 0; what < 5; what++) {
            so.append(what == 0 ? "" : " ").append(x.shape(f, what));
        }
        return so.toString();
    }

    private static void boundRefused() {
        c.about("promise 9: -2, no such FUNCTION or VALUE, or f not of two");
        x = new StageConveyor();
        int two = x.basic(30);
        int one = x.basic(0);
        int value = x.whole(1);
        int[] none = {-1, 2, 3, 60, Integer.MAX_VALUE, Integer.MIN_VALUE};
        for (int n : none) {
            c.due(-2, x.bind(n, value, true));
            c.due(-2, x.bind(n, value, false));
            c.due(-2, x.bind(two, n, true));
            c.due(-2, x.bind(two, n, false));
        }
        c.due(-2, x.bind(one, value, true));
        c.due(-2, x.bind(one, value, false));
        int bound = x.bind(two, value, true);
        c.due(-2, x.bind(bound, value, true));
        c.about("promise 9: -3, the VALUE with what f asks for there");
        for (int code = 30; code <= 50; code++) {
            x = new StageConveyor();
            int[] values = oneOfEach();
            int f = x.basic(code);
            int made = 1;
            for (int kind = 0; kind < 5; kind++) {
                boolean first = fits(ASKED[code].charAt(0), kind);
                c.due(first ? made++ : -3, x.bind(f, values[kind], false));
                boolean second = fits(ASKED[code].charAt(1), kind);
                c.due(second ? made++ : -3, x.bind(f, values[kind], true));
            }
        }
    }

    private static void exchanged() {
        c.about("promise 10: calls f with its own arguments the other way round");
        x = new StageConveyor();
        int minus = x.basic(31);
        int f = x.exchange(minus);
        int three = x.whole(3);
        int ten = x.whole(10);
        c.due("7", Kit.call(x, f, three, ten));
        c.due("1 0", Kit.calls(x));
        c.due(94, x.argument(0, false));
        c.due(311, x.argument(0, true));
        c.due(311, x.argument(1, false));
        c.due(94, x.argument(1, true));
        c.due("-7", Kit.call(x, x.exchange(f), three, ten));
        c.about("promise 10: -2");
        int single = x.basic(0);
        int known = x.count(1);
        int[] none = {-1, known, known + 1, 60, Integer.MAX_VALUE, Integer.MIN_VALUE, single};
        for (int n : none) {
            c.due(-2, x.exchange(n));
        }
        c.due(known, x.count(1));
    }

    /** A FUNCTION of two arguments of an odd SIZE. */
    private static int ofSize(int size) {
        int negated = x.basic(0);
        int made = x.basic(30);
        for (int i = 1; i < size; i += 2) {
            made = x.behind(negated, made);
        }
        return made;
    }

    private static void sizes() {
        c.about("promises 8 to 10: -4, a FUNCTION's SIZE above 20");
        x = new StageConveyor();
        int one = x.whole(1);
        int nineteen = ofSize(19);
        c.due(19, x.shape(nineteen, 4));
        int known = x.count(1);
        c.due(known, x.exchange(nineteen));
        c.due(known + 1, x.bind(nineteen, one, true));
        c.due(known + 2, x.bind(nineteen, one, false));
        for (int f = known; f < known + 3; f++) {
            c.due(20, x.shape(f, 4));
        }
        c.due(-4, x.exchange(known));
        c.due(-4, x.bind(known, one, true));
        c.due(-4, x.bind(known, one, false));
        int negated = x.basic(0);
        c.due(-4, x.behind(negated, nineteen));
        c.due(-4, x.behind(known + 1, negated));
        c.due(-4, x.behind(negated, known + 1));
        c.due(known + 4, x.count(1));
        c.about("promise 8: -4, the SIZES of both and 1");
        int ten = x.bind(ofSize(9), one, true);
        int nine = x.behind(negated, x.bind(ofSize(5), one, true));
        int eight = x.bind(ofSize(7), one, true);
        int bound = x.bind(x.basic(30), one, true);
        int eleven = x.behind(eight, bound);
        c.due(10, x.shape(ten, 4));
        c.due(8, x.shape(nine, 4));
        c.due(8, x.shape(eight, 4));
        c.due(11, x.shape(eleven, 4));
        c.due(20, x.shape(x.behind(eleven, eight), 4));
        c.due(20, x.shape(x.behind(eight, eleven), 4));
        c.due(19, x.shape(x.behind(ten, eight), 4));
        c.due(-4, x.behind(ten, ten));
        c.due(-4, x.behind(eleven, x.behind(eight, negated)));
    }

    private static void counted() {
        c.about("Terms: SIZE of a FUNCTION, the CALLS of the largest");
        x = new StageConveyor();
        int one = x.whole(1);
        int f = x.bind(ofSize(19), one, true);
        c.due(20, x.shape(f, 4));
        Kit.call(x, f, one);
        // one CALL for each that its SIZE counts
        c.due(20, x.count(5));
        c.due(21, x.count(4));
    }

    private static void holds() {
        c.about("f HOLDS if it gives a LONG that isn't 0");
        long[] of = {0, 1, -1, 2, MAX, MIN};
        for (long v : of) {
            x = new StageConveyor();
            int p = x.row(Kit.longs(x, v));
            int itself = x.bind(x.basic(49), 0, true);
            c.due(v == 0 ? "[]" : "[" + v + "]", Kit.all(x, x.stage(p, 11, itself, 0)));
            c.due(v == 0 ? "[]" : "[" + v + "]", Kit.all(x, x.stage(p, 17, itself, 0)));
            c.due(v == 0 ? "[0]" : "[]", Kit.all(x, x.stage(p, 18, itself, 0)));
            c.due(v == 0 ? "0" : "1", Kit.run(x, p, 6, itself, 0));
            c.due(v == 0 ? "0" : "1", Kit.run(x, p, 7, itself, 0));
            c.due(v == 0 ? "1" : "0", Kit.run(x, p, 8, itself, 0));
            c.due(v == 0 ? "([], [0])" : "([" + v + "], [])", Kit.run(x, p, 15, itself, 0));
        }
        c.about("f HOLDS: another KIND FAILS KIND");
        for (int kind = 1; kind < 5; kind++) {
            x = new StageConveyor();
            int p = Kit.row(x, oneOfEach()[kind]);
            int itself = x.bind(x.basic(49), 0, true);
            int[] stages = {11, 17, 18};
            for (int sort : stages) {
                int s = x.stage(p, sort, itself, 0);
                c.due("fails 1 at " + s + " given 0", Kit.all(x, s));
                c.due(2, x.count(5));
            }
            int[] ends = {6, 7, 8, 15};
            for (int end : ends) {
                c.due("fails 1 at -1 given 0", Kit.run(x, p, end, itself, 0));
            }
        }
    }
}
