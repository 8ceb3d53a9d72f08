/** Promises 7 to 10: FUNCTIONS, BASIC ones and those put together. */
public final class FunctionTest {
    private static final Check c = new Check("FunctionTest");
    private static StageConveyor x;

    public static void main(String[] args) {
        basic();
        shapes();
        ofLongs();
        ofReals();
        ofWords();
        ofPairsAndLists();
        ofAny();
        flaky();
        ofTwoLongs();
        ofTwoReals();
        ofTwoOthers();
        tooLarge();
        wrongKinds();
        behind();
        bind();
        exchange();
        c.finish();
    }

    private static String of(int code, int value) {
        return Kit.call(x, x.basic(code), value);
    }

    private static String of(int code, int value, int second) {
        return Kit.call(x, x.basic(code), value, second);
    }

    private static String ofLong(int code, long v) {
        x = new StageConveyor();
        return of(code, x.whole(v));
    }

    private static String ofReal(int code, double v) {
        x = new StageConveyor();
        return of(code, x.real(v));
    }

    private static String ofWord(int code, String letters) {
        x = new StageConveyor();
        return of(code, Kit.word(x, letters));
    }

    private static String ofList(int code, long... v) {
        x = new StageConveyor();
        return of(code, Kit.longs(x, v));
    }

    private static String ofTwo(int code, long v, long w) {
        x = new StageConveyor();
        return of(code, x.whole(v), x.whole(w));
    }

    private static String ofTwoReal(int code, double v, double w) {
        x = new StageConveyor();
        return of(code, x.real(v), x.real(w));
    }

    private static void basic() {
        c.about("promise 7");
        x = new StageConveyor();
        c.due(-2, x.basic(-1));
        c.due(-2, x.basic(29));
        c.due(-2, x.basic(51));
        c.due(-2, x.basic(Integer.MAX_VALUE));
        c.due(-2, x.basic(Integer.MIN_VALUE));
        c.due(0, x.count(1));
        int made = 0;
        for (int code = 0; code <= 50; code++) {
            if (code != 29) {
                c.due(made++, x.basic(code));
            }
        }
        while (made < 60) {
            c.due(made++, x.basic(0));
        }
        c.due(-4, x.basic(0));
        c.due(-2, x.basic(29));
        c.due(60, x.count(1));
        c.due(1, x.undo());
        c.due(59, x.basic(1));
    }

    /** By CODE: the KINDS that are asked for, then that of the answers. */
    private static final String[] KINDS = {
        "LL", "LL", "LL", "LL", "LL", "LL", "LL", "LR", "RL", "RR", "RR", "WL", "WW", "WS", "WW",
        "PA", "PA", "PP", "SL", "SA", "SS", "SS", "SL", "AS", "AL", "AL", "AP", "AA", "AL", "",
        "LLL", "LLL", "LLL", "LLL", "LLL", "LLL", "LLL", "LLL", "RRR", "RRR", "RRR", "RRL", "WWW",
        "AAL", "AAL", "AAP", "ASS", "SSS", "SLA", "AAA", "AAA"};

    private static void shapes() {
        c.about("promises 7 and 37");
        x = new StageConveyor();
        for (int code = 0; code <= 50; code++) {
            if (code == 29) {
                continue;
            }
            String kinds = KINDS[code];
            int f = x.basic(code);
            int arity = kinds.length() - 1;
            c.due(arity, x.shape(f, 0));
            c.due("LRWPSA".indexOf(kinds.charAt(0)), x.shape(f, 1));
            c.due(arity == 2 ? "LRWPSA".indexOf(kinds.charAt(1)) : -1, x.shape(f, 2));
            c.due("LRWPSA".indexOf(kinds.charAt(arity)), x.shape(f, 3));
            c.due(1, x.shape(f, 4));
        }
    }

    private static void ofLongs() {
        c.about("CODES 0 to 7");
        c.due("-5", ofLong(0, 5));
        c.due("-9223372036854775808", ofLong(0, Long.MIN_VALUE));
        c.due("5", ofLong(1, -5));
        c.due("5", ofLong(1, 5));
        c.due("-9223372036854775808", ofLong(1, Long.MIN_VALUE));
        c.due("49", ofLong(2, -7));
        c.due("1", ofLong(2, Long.MAX_VALUE));
        c.due("3", ofLong(3, 7));
        c.due("-3", ofLong(3, -7));
        c.due("64", ofLong(4, -1));
        c.due("2", ofLong(4, 5));
        c.due("1", ofLong(5, 0));
        c.due("1", ofLong(5, -4));
        c.due("0", ofLong(5, -3));
        c.due("1", ofLong(6, 1));
        c.due("0", ofLong(6, 0));
        c.due("0", ofLong(6, -1));
        c.due("3.0", ofLong(7, 3));
        c.due("9.007199254740992E15", ofLong(7, (1L << 53) + 1));
        c.due("9.007199254740996E15", ofLong(7, (1L << 53) + 3));
        c.due(Double.toString(9223372036854775808.0), ofLong(7, Long.MAX_VALUE));
    }

    private static void ofReals() {
        c.about("CODES 8 to 10");
        c.due("2", ofReal(8, 2.9));
        c.due("-2", ofReal(8, -2.9));
        c.due("fails 5", ofReal(8, 9223372036854775808.0));
        c.due("9223372036854774784", ofReal(8, 9223372036854774784.0));
        c.due("-9223372036854775808", ofReal(8, -9223372036854775808.0));
        c.due("fails 5", ofReal(8, -9223372036854777856.0));
        c.due("-1.5", ofReal(9, 1.5));
        c.due("0.0", ofReal(9, 0.0));
        c.due("0.75", ofReal(10, 1.5));
        c.due("0.0", ofReal(10, -Double.MIN_VALUE));
        c.due(Double.toString(2 * Double.MIN_VALUE), ofReal(10, 3 * Double.MIN_VALUE));
    }

    private static void ofWords() {
        c.about("CODES 11 to 14");
        c.due("0", ofWord(11, ""));
        c.due("12", ofWord(11, "abcdefghijkl"));
        c.due("\"cba\"", ofWord(12, "abc"));
        c.due("\"\"", ofWord(12, ""));
        c.due("[\"a\", \"z\", \"a\"]", ofWord(13, "aza"));
        // 1 for the source's element, 1 for the CALL, 3 for the LIST
        c.due(5, x.count(4));
        c.due("[]", ofWord(13, ""));
        c.due("\"z\"", ofWord(14, "zab"));
        c.due("\"y\"", ofWord(14, "y"));
        c.due("fails 3", ofWord(14, ""));
    }

    private static void ofPairsAndLists() {
        c.about("CODES 15 to 22");
        x = new StageConveyor();
        int one = x.whole(1);
        int half = x.real(0.5);
        int pair = x.pair(one, half);
        c.due("1", of(15, pair));
        c.due("0.5", of(16, pair));
        c.due("(0.5, 1)", of(17, pair));
        c.due(2, x.count(4));
        c.due("0", ofList(18));
        c.due("3", ofList(18, 4, 5, 6));
        c.due("4", ofList(19, 4, 5));
        c.due("fails 3", ofList(19));
        c.due("[5, 6]", ofList(20, 4, 5, 6));
        c.due(2, x.count(4));
        c.due("[]", ofList(20, 4));
        c.due("fails 3", ofList(20));
        c.due("[6, 5, 4]", ofList(21, 4, 5, 6));
        c.due(5, x.count(4));
        c.due("[]", ofList(21));
        c.due("15", ofList(22, 4, 5, 6));
        c.due("0", ofList(22));
        c.due("-9223372036854775808", ofList(22, Long.MAX_VALUE, 1));
        x = new StageConveyor();
        c.due("fails 1", of(22, Kit.list(x, x.whole(1), x.real(1.0))));
    }

    private static void ofAny() {
        c.about("CODES 23 to 28");
        x = new StageConveyor();
        int one = x.whole(1);
        int pair = x.pair(one, one);
        int list = Kit.list(x, one, pair);
        c.due("[(1, 1)]", of(23, pair));
        c.due(3, x.count(4));
        c.due("[[]]", of(23, 0));
        c.due("0", of(24, one));
        c.due("1", of(24, x.real(2.0)));
        c.due("2", of(24, x.word(1)));
        c.due("3", of(24, pair));
        c.due("4", of(24, list));
        c.due("32", of(25, one));
        c.due("([], [])", of(26, 0));
        c.due(2, x.count(4));
        c.due("1", of(28, one));
        c.due("3", of(28, pair));
        c.due("5", of(28, list));
        c.due("1", of(28, 0));
    }

    private static void flaky() {
        c.about("CODE 27");
        x = new StageConveyor();
        int f = x.basic(27);
        int other = x.basic(27);
        int p = x.range(0, 9);
        int nine = x.whole(99);
        int tried = x.stage(p, 28, f, 2);
        c.due("[0, 1, 2, 3, 4, 5, 6, 7, 8]", Kit.all(x, tried));
        c.due(27, x.calls(f));
        c.due("fails 7 at " + x.count(3) + " given 0", Kit.all(x, x.stage(p, 12, f, 0)));
        c.due(1, x.calls(f));
        // each FUNCTION has its own number of calls
        int both = x.stage(x.stage(p, 28, f, 2), 28, other, 2);
        c.due("[0, 1, 2, 3, 4, 5, 6, 7, 8]", Kit.all(x, both));
        c.due(27, x.calls(other));
        int rescued = x.stage(x.stage(p, 12, other, 0), 27, 0, nine);
        c.due("[99]", Kit.all(x, rescued));
    }

    private static void ofTwoLongs() {
        c.about("CODES 30 to 37");
        c.due("7", ofTwo(30, 3, 4));
        c.due("-9223372036854775808", ofTwo(30, Long.MAX_VALUE, 1));
        c.due("-1", ofTwo(31, 3, 4));
        c.due("12", ofTwo(32, 3, 4));
        c.due("-2", ofTwo(33, -7, 3));
        c.due("-9223372036854775808", ofTwo(33, Long.MIN_VALUE, -1));
        c.due("fails 2", ofTwo(33, 1, 0));
        c.due("-1", ofTwo(34, -7, 3));
        c.due("1", ofTwo(34, 7, -3));
        c.due("0", ofTwo(34, Long.MIN_VALUE, -1));
        c.due("fails 2", ofTwo(34, 1, 0));
        c.due("1", ofTwo(35, 1, 2));
        c.due("0", ofTwo(35, 2, 2));
        c.due("0", ofTwo(35, 3, 2));
        c.due("-5", ofTwo(36, -5, 2));
        c.due("-5", ofTwo(36, 2, -5));
        c.due("2", ofTwo(37, -5, 2));
        c.due("2", ofTwo(37, 2, -5));
    }

    private static void ofTwoReals() {
        c.about("CODES 38 to 41");
        c.due("0.30000000000000004", ofTwoReal(38, 0.1, 0.2));
        c.due("fails 5", ofTwoReal(38, Double.MAX_VALUE, Double.MAX_VALUE));
        c.due("fails 5", ofTwoReal(38, -Double.MAX_VALUE, -Double.MAX_VALUE));
        c.due("0.75", ofTwoReal(39, 0.5, 1.5));
        c.due("0.0", ofTwoReal(39, -1.0, 0.0));
        c.due("fails 5", ofTwoReal(39, 1e200, -1e200));
        c.due("0.5", ofTwoReal(40, 1.0, 2.0));
        c.due("0.0", ofTwoReal(40, 0.0, -2.0));
        c.due("fails 2", ofTwoReal(40, 1.0, 0.0));
        c.due("fails 2", ofTwoReal(40, 0.0, -0.0));
        c.due("fails 5", ofTwoReal(40, 1e300, 1e-300));
        c.due("1", ofTwoReal(41, 0.25, 0.5));
        c.due("0", ofTwoReal(41, 0.5, 0.5));
        c.due("0", ofTwoReal(41, 0.75, 0.5));
    }

    private static void ofTwoOthers() {
        c.about("CODES 42 to 50");
        x = new StageConveyor();
        int ab = Kit.word(x, "ab");
        int z = Kit.word(x, "z");
        int long10 = Kit.word(x, "abcdefghij");
        c.due("\"abz\"", of(42, ab, z));
        c.due("\"abcdefghijab\"", of(42, long10, ab));
        int eleven = Kit.word(x, "abcdefghijk");
        c.due("fails 4", of(42, eleven, ab));
        c.due("0", of(43, ab, z));
        c.due("1", of(43, ab, Kit.word(x, "ab")));
        c.due("1", of(44, ab, z));
        c.due("0", of(44, z, ab));
        c.due("0", of(44, z, z));
        c.due("0", ofTwoReal(44, 0.5, 0.5));
        c.due("1", ofTwoReal(44, 0.25, 0.5));
        c.due("0", ofTwo(44, 5, 5));
        x = new StageConveyor();
        int one = x.whole(1);
        int onePointNought = x.real(1.0);
        c.due("0", of(43, one, onePointNought));
        c.due("1", of(43, Kit.list(x, one), Kit.list(x, one)));
        c.due("0", of(43, Kit.list(x, one), Kit.list(x, one, one)));
        c.due("0", of(43, x.pair(one, one), Kit.list(x, one, one)));
        c.due("(1, 1.0)", of(45, one, onePointNought));
        c.due(3, x.count(4));
        x = new StageConveyor();
        one = x.whole(1);
        int list = Kit.longs(x, 7, 8);
        c.due("[1, 7, 8]", of(46, one, list));
        c.due(4, x.count(4));
        c.due("[7, 8, 7, 8]", of(47, list, list));
        c.due(5, x.count(4));
        c.due("[7, 8]", of(47, 0, list));
        c.due(3, x.count(4));
        c.due("8", of(48, list, one));
        c.due("7", of(48, list, x.whole(0)));
        c.due("fails 3", of(48, list, x.whole(2)));
        c.due("fails 3", of(48, list, x.whole(-1)));
        x = new StageConveyor();
        one = x.whole(1);
        list = Kit.longs(x, 7);
        c.due("fails 3", of(48, list, x.whole(1L << 32)));
        c.due("1", of(49, one, list));
        c.due("[7]", of(50, one, list));
    }

    private static int forty() {
        int made = 0;
        int one = x.whole(1);
        for (int i = 0; i < 40; i++) {
            made = x.cons(one, made);
        }
        return made;
    }

    private static void tooLarge() {
        c.about("TOO LARGE FAILS SIZE");
        x = new StageConveyor();
        int big = forty();
        c.due("fails 4", of(46, 0, big));
        // the elements' STEPS are taken ahead of SIZE
        c.due(4, x.count(4));
        c.due("fails 4", of(47, big, big));
        c.due(43, x.count(4));
        x = new StageConveyor();
        big = forty();
        c.due("([1", of(26, big).substring(0, 3));
        int pair = x.pair(big, big);
        c.due("fails 4", of(26, pair));
        c.due("fails 4", of(45, pair, pair));
        x = new StageConveyor();
        int deep = x.whole(1);
        for (int i = 0; i < 8; i++) {
            deep = x.pair(deep, deep == 1 ? 1 : 0);
        }
        // DEPTH 9: a LIST around it is right, two are not
        c.due("1", Kit.call(x, x.behind(x.basic(18), x.basic(23)), deep));
        int twice = x.behind(x.basic(23), x.basic(23));
        c.due("fails 4", Kit.call(x, twice, deep));
        c.due(6, x.count(4));
    }

    private static void wrongKinds() {
        c.about("FAILS KIND, the first argument first, ahead of all else");
        x = new StageConveyor();
        int one = x.whole(1);
        int ab = Kit.word(x, "ab");
        c.due("fails 1", of(0, ab));
        c.due(1, x.count(5));
        c.due("fails 1", of(30, ab, one));
        c.due("fails 1", of(30, one, ab));
        c.due("fails 1", of(46, one, one));
        c.due("fails 1", of(48, one, one));
        // the CALL that FAILS KIND is counted, with its arguments
        c.due(32, x.argument(0, false));
        c.due(32, x.argument(0, true));
        // those put together ask for what the first one asks for: nothing else is called
        int f = x.behind(x.basic(1), x.basic(0));
        c.due("fails 1", Kit.call(x, f, ab));
        c.due(1, x.count(5));
    }

    private static void behind() {
        c.about("promise 8");
        x = new StageConveyor();
        int squared = x.basic(2);
        int plus = x.basic(30);
        int letters = x.basic(11);
        int first = x.basic(15);
        int f = x.behind(squared, plus);
        c.due(4, f);
        c.due(2, x.shape(f, 0));
        c.due(0, x.shape(f, 1));
        c.due(0, x.shape(f, 2));
        c.due(0, x.shape(f, 3));
        c.due(3, x.shape(f, 4));
        c.due("49", Kit.call(x, f, x.whole(3), x.whole(4)));
        c.due("4 1 0", Kit.calls(x));
        int g = x.behind(squared, letters);
        c.due(2, x.shape(g, 1));
        c.due(-1, x.shape(g, 2));
        c.due(5, g);
        int known = x.count(1);
        c.due(-2, x.behind(plus, squared));
        c.due(-2, x.behind(-1, squared));
        c.due(-2, x.behind(known, squared));
        c.due(-2, x.behind(squared, -1));
        c.due(-2, x.behind(squared, known));
        c.due(-3, x.behind(letters, squared));
        c.due(known, x.count(1));
        // ANY fits all, and FAILS when it is called
        int h = x.behind(squared, first);
        c.due(known, h);
        c.due("fails 1", Kit.call(x, h, x.pair(Kit.word(x, "a"), 0)));
        c.due(h + " " + first + " " + squared, Kit.calls(x));
        c.about("promise 8, SIZE 20");
        StageConveyor y = new StageConveyor();
        int so = y.basic(0);
        for (int size = 3; size <= 19; size += 2) {
            so = y.behind(0, so);
            c.due(size, y.shape(so, 4));
        }
        c.due(-4, y.behind(0, so));
        int bound = y.bind(y.basic(30), y.whole(1), true);
        so = y.behind(bound, 0);
        for (int size = 6; size <= 20; size += 2) {
            so = y.behind(0, so);
            c.due(size, y.shape(so, 4));
        }
        c.due(-4, y.behind(so, 0));
        c.about("promises 8 to 10, no room");
        StageConveyor z = new StageConveyor();
        z.basic(0);
        z.basic(30);
        z.basic(11);
        while (z.count(1) < 60) {
            z.basic(0);
        }
        c.due(-4, z.behind(0, 0));
        c.due(-4, z.bind(1, z.whole(1), true));
        c.due(-4, z.exchange(1));
        c.due(-3, z.behind(2, 0));
        c.due(-3, z.bind(1, 0, true));
        c.due(-2, z.exchange(0));
        c.due(60, z.count(1));
    }

    private static void bind() {
        c.about("promise 9");
        x = new StageConveyor();
        int minus = x.basic(31);
        int element = x.basic(48);
        int ten = x.whole(10);
        int ab = Kit.word(x, "ab");
        int list = Kit.longs(x, 5, 6);
        int from = x.bind(minus, ten, false);
        int less = x.bind(minus, ten, true);
        c.due(2, from);
        c.due(3, less);
        c.due("7", Kit.call(x, from, x.whole(3)));
        c.due(from + " " + minus, Kit.calls(x));
        c.due(10 * 31 + 1, x.argument(1, false));
        c.due(3 * 31 + 1, x.argument(1, true));
        c.due("-7", Kit.call(x, less, x.whole(3)));
        int at = x.bind(element, list, false);
        c.due(1, x.shape(at, 0));
        c.due(0, x.shape(at, 1));
        c.due(-1, x.shape(at, 2));
        c.due(5, x.shape(at, 3));
        c.due(2, x.shape(at, 4));
        int of = x.bind(element, ten, true);
        c.due(4, x.shape(of, 1));
        int known = x.count(1);
        c.due(-2, x.bind(less, ten, true));
        c.due(-2, x.bind(-1, ten, true));
        c.due(-2, x.bind(known, ten, true));
        c.due(-2, x.bind(minus, -1, true));
        c.due(-2, x.bind(minus, x.count(0), true));
        c.due(-3, x.bind(minus, ab, true));
        c.due(-3, x.bind(minus, ab, false));
        c.due(-3, x.bind(element, ten, false));
        c.due(-3, x.bind(element, list, true));
        c.due(known, x.count(1));
        int pairing = x.basic(45);
        c.due(known + 1, x.bind(pairing, ab, true));
        c.about("promise 9, SIZE 20");
        StageConveyor y = new StageConveyor();
        int big = y.basic(30);
        int negated = y.basic(0);
        for (int i = 0; i < 9; i++) {
            big = y.behind(negated, big);
        }
        c.due(19, y.shape(big, 4));
        int value = y.whole(1);
        c.due(20, y.shape(y.bind(big, value, true), 4));
        int larger = y.exchange(big);
        c.due(20, y.shape(larger, 4));
        c.due(-4, y.bind(larger, value, false));
        c.due(-4, y.exchange(larger));
    }

    private static void exchange() {
        c.about("promise 10");
        x = new StageConveyor();
        int element = x.basic(48);
        int list = Kit.longs(x, 5, 6);
        int one = x.whole(1);
        int f = x.exchange(element);
        c.due(1, f);
        c.due(2, x.shape(f, 0));
        c.due(0, x.shape(f, 1));
        c.due(4, x.shape(f, 2));
        c.due(5, x.shape(f, 3));
        c.due(2, x.shape(f, 4));
        c.due("6", Kit.call(x, f, one, list));
        c.due(f + " " + element, Kit.calls(x));
        c.due(32, x.argument(0, false));
        c.due(32, x.argument(1, true));
        c.due(-2, x.exchange(-1));
        c.due(-2, x.exchange(2));
        int single = x.basic(0);
        c.due(-2, x.exchange(single));
        c.due(3, x.exchange(f));
        c.due("6", Kit.call(x, 3, list, one));
    }
}
