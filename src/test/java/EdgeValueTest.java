/** The edges of VALUES: TOO LARGE, SAME, ORDER, HASH, and promises 1 to 6, a sentence each. */
public final class EdgeValueTest {
    private static final Check c = new Check("EdgeValueTest");
    private static StageConveyor x;

    public static void main(String[] args) {
        newObject();
        wholes();
        neverMinusNought();
        neverEndless();
        nearest();
        lettersAtEachPlace();
        wordsOfEachLength();
        wordsRefused();
        weights();
        depths();
        weightOfHundred();
        depthOfTen();
        listOfForty();
        pairRefused();
        consRefused();
        sixtieth();
        same();
        sameDespiteHash();
        order();
        hashOfLongs();
        hashOfReals();
        hashOfWords();
        hashOfPairsAndLists();
        c.finish();
    }

    private static String shown(int value) {
        return Kit.run(x, Kit.row(x, value), 5, 0, 0);
    }

    private static String of(int code, int value) {
        return Kit.call(x, x.basic(code), value);
    }

    private static void newObject() {
        c.about("promise 1: VALUE 0 is the empty LIST");
        x = new StageConveyor();
        c.due("[]", shown(0));
        x = new StageConveyor();
        c.due("0", of(18, 0));
        c.about("promise 1: there is nothing else");
        x = new StageConveyor();
        c.due(-2, x.row(1));
        c.due(-2, x.pair(0, 1));
        c.due(-2, x.cons(1, 0));
        c.due(-2, x.behind(0, 0));
        c.due(-2, x.exchange(0));
        c.due(-2, x.bind(0, 0, true));
        c.due(-2, x.key(0, true));
        c.due(-2, x.then(0, 0));
        c.due(-2, x.iterate(0, 0, 0, false));
        c.due(-1, x.guard(0, 6, 0));
        c.due(-1, x.both(0, 0, 8, 0));
        c.due(-1, x.stage(0, 30, 0, 0));
        c.due(-1, x.run(0, 0, 0, 0));
        c.due(-1, x.foretell(0, 0, 0, 0));
        c.due(-1, x.equal(0, 0, 0, 0, 0));
        c.due(-1, x.rewrite(0));
        c.due(-1, x.look(0, 0));
        c.due(-2, x.shape(0, 0));
        c.due(1, x.count(0));
    }

    private static void wholes() {
        c.about("promise 2: a LONG of 64 bits");
        long[] edges = {0, 1, -1, Integer.MAX_VALUE + 1L, Integer.MIN_VALUE - 1L, Long.MAX_VALUE, Long.MIN_VALUE};
        for (long v : edges) {
            x = new StageConveyor();
            c.due(1, x.whole(v));
            c.due(Long.toString(v), shown(1));
            c.due(0, x.kind(0));
        }
    }

    /** The bits of what a RUN of one element to END 5 gives, for -0.0 is equal to 0.0. */
    private static void dueNought(int p) {
        c.due(1, x.run(p, 5, 0, 0));
        c.due(0.0, x.measured(0));
    }

    private static void neverMinusNought() {
        c.about("Terms: a REAL is never -0.0");
        x = new StageConveyor();
        int nought = x.real(-0.0);
        int below = x.real(-1.0);
        int least = x.real(-Double.MIN_VALUE);
        int half = x.real(0.5);
        int zero = x.real(0.0);
        dueNought(Kit.row(x, nought));
        dueNought(x.steps(-0.0, -0.0, 1));
        dueNought(x.stage(Kit.row(x, zero), 12, x.basic(9), 0));
        dueNought(x.stage(Kit.row(x, least), 12, x.basic(10), 0));
        dueNought(x.both(Kit.row(x, nought), Kit.row(x, nought), 9, x.basic(38)));
        dueNought(x.both(Kit.row(x, below), Kit.row(x, zero), 9, x.basic(39)));
        dueNought(x.both(Kit.row(x, least), Kit.row(x, half), 9, x.basic(39)));
        dueNought(x.both(Kit.row(x, zero), Kit.row(x, below), 9, x.basic(40)));
        c.due(1, x.run(Kit.row(x, nought, nought), 2, 0, 0));
        c.due(0.0, x.measured(0));
        c.due(1, x.run(x.steps(-0.0, 0.0, 0), 2, 0, 0));
        c.due(0.0, x.measured(0));
    }

    private static void neverEndless() {
        c.about("promise 3: -2, no number, or endless");
        x = new StageConveyor();
        c.due(1, x.real(Double.MAX_VALUE));
        c.due(2, x.real(-Double.MAX_VALUE));
        c.due(-2, x.real(Double.POSITIVE_INFINITY));
        c.due(-2, x.real(Double.NEGATIVE_INFINITY));
        c.due(-2, x.real(Double.NaN));
        c.due(-2, x.real(0.0 / 0.0 * -1.0));
        c.due(3, x.real(Double.MIN_VALUE));
        c.due(4, x.real(-Double.MIN_VALUE));
        c.due(5, x.real(Double.MIN_NORMAL));
        double[] due = {Double.MAX_VALUE, -Double.MAX_VALUE, Double.MIN_VALUE, -Double.MIN_VALUE, Double.MIN_NORMAL};
        for (int i = 0; i < due.length; i++) {
            c.due(1, x.run(Kit.row(x, i + 1), 5, 0, 0));
            c.due(due[i], x.measured(0));
        }
    }

    private static void nearest() {
        c.about("Terms: what is reckoned is the nearest double, of two the even one");
        x = new StageConveyor();
        int two53 = x.real(9007199254740992.0);
        int next = x.real(9007199254740994.0);
        int one = x.real(1.0);
        int three = x.real(3.0);
        int plus = x.basic(38);
        c.due("9.007199254740992E15", Kit.call(x, plus, two53, one));
        c.due("9.007199254740996E15", Kit.call(x, plus, next, one));
        c.due("0.3333333333333333", Kit.call(x, x.basic(40), one, three));
        c.due("0.010000000000000002", Kit.call(x, x.basic(39), x.real(0.1), x.real(0.1)));
        // half of the least one lies between 0.0 and it; 3 halves of it between 1 and 2 of it
        c.due("0.0", of(10, x.real(Double.MIN_VALUE)));
        of(10, x.real(3 * Double.MIN_VALUE));
        c.due(2 * Double.MIN_VALUE, x.measured(0));
    }

    private static void lettersAtEachPlace() {
        c.about("promise 4: digits to the base 27, the first letter the highest one");
        for (int place = 0; place < 12; place++) {
            for (char letter : new char[] {'a', 'b', 'y', 'z'}) {
                StringBuilder so = new StringBuilder("mmmmmmmmmmmm");
                so.setCharAt(place, letter);
                x = new StageConveyor();
                int word = Kit.word(x, so.toString());
                c.due(1, word);
                c.due("\"" + so + "\"", shown(word));
                c.due(Kit.digits(so.toString()), x.told(0));
                c.due("\"" + new StringBuilder(so).reverse() + "\"", of(12, word));
                x.run(x.stage(x.row(word), 15, 0, place), 5, 0, 0);
                c.due("\"" + letter + "\"", Kit.result(x));
            }
        }
    }

    private static void wordsOfEachLength() {
        c.about("promise 4: 0 to 12 letters");
        for (int length = 0; length <= 12; length++) {
            String letters = "zabcdefghija".substring(0, length);
            x = new StageConveyor();
            int word = Kit.word(x, letters);
            c.due(1, word);
            c.due("\"" + letters + "\"", shown(word));
            c.due(length, x.size(0));
            c.due(Kit.digits(letters), x.told(0));
            c.due(Integer.toString(length), of(11, word));
            c.due(4, x.run(x.row(word), 10, 0, 0));
            c.due(length, x.size(0));
        }
        x = new StageConveyor();
        c.due(1, x.word(1));
        c.due(2, x.word(26));
        c.due(3, x.word(28));
        c.due(4, x.word(150094635296999120L));
        c.due("\"a\"", shown(1));
        c.due("\"z\"", shown(2));
        c.due("\"aa\"", shown(3));
        c.due("\"zzzzzzzzzzzz\"", shown(4));
    }

    private static void wordsRefused() {
        c.about("promise 4: -2, below 0");
        x = new StageConveyor();
        c.due(-2, x.word(-1));
        c.due(-2, x.word(-28));
        c.due(-2, x.word(Long.MIN_VALUE));
        c.due(-2, x.word(Long.MIN_VALUE + 1));
        c.about("promise 4: -2, a digit 0");
        long power = 1;
        for (int place = 0; place < 11; place++) {
            // a 0 at this place, letters all around it
            c.due(-2, x.word(Kit.digits("mmmmmmmmmmmm") - 13 * power));
            c.due(-2, x.word(27 * power));
            power *= 27;
        }
        c.about("promise 4: -2, more than 12 letters");
        c.due(-2, x.word(150094635296999121L));
        c.due(-2, x.word(Kit.digits("aaaaaaaaaaaaa")));
        c.due(-2, x.word(Kit.digits("zzzzzzzzzzzzz")));
        c.due(-2, x.word(Long.MAX_VALUE));
        c.due(1, x.count(0));
        c.due(0, x.count(7));
    }

    private static void weights() {
        c.about("Terms: WEIGHT");
        x = new StageConveyor();
        int one = x.whole(Long.MIN_VALUE);
        int real = x.real(1e300);
        int word = Kit.word(x, "abcdefghijkl");
        int pair = x.pair(one, word);
        int list = Kit.list(x, real, pair, 0);
        c.due("1", of(28, one));
        c.due("1", of(28, real));
        c.due("1", of(28, word));
        c.due("3", of(28, pair));
        c.due("1", of(28, 0));
        c.due("6", of(28, list));
        c.due("10", of(28, x.pair(list, pair)));
    }

    /** Whether the VALUE has this DEPTH: it can be put into just as many PAIRS as are left to 10. */
    private static void dueDepth(int depth, int value) {
        int so = value;
        for (int i = depth; i < 10; i++) {
            so = x.pair(0, so);
            c.due(1, so > 0 ? 1 : 0);
        }
        c.due(-4, x.pair(so, 0));
        c.due(-4, x.pair(0, so));
        c.due(-4, x.cons(so, 0));
    }

    private static void depths() {
        c.about("Terms: DEPTH");
        x = new StageConveyor();
        dueDepth(1, x.whole(7));
        dueDepth(1, x.real(0.5));
        dueDepth(1, Kit.word(x, "ab"));
        c.about("Terms: DEPTH, an empty LIST 1");
        dueDepth(1, 0);
        c.about("Terms: DEPTH, 1 more than the greatest in it");
        x = new StageConveyor();
        int one = x.whole(1);
        int two = x.pair(one, one);
        dueDepth(2, two);
        dueDepth(2, x.cons(one, 0));
        dueDepth(2, x.cons(0, 0));
        x = new StageConveyor();
        one = x.whole(1);
        two = x.pair(one, one);
        int three = x.pair(two, one);
        dueDepth(4, x.pair(one, three));
        dueDepth(4, Kit.list(x, one, three, two));
        // a LIST is no deeper for its length
        dueDepth(2, Kit.list(x, one, one, one, one));
    }

    private static void weightOfHundred() {
        c.about("TOO LARGE: a WEIGHT above 100");
        x = new StageConveyor();
        int most = Kit.heavy(x, 99);
        int full = x.cons(0, most);
        c.due("100", Kit.run(x, x.stage(Kit.only(x, full), 12, x.basic(28), 0), 5, 0, 0));
        c.due(-4, x.cons(0, full));
        c.due(-4, x.pair(0, full));
        c.due(-4, x.pair(full, 0));
        c.due(-4, x.pair(0, most));
        c.due(-4, x.cons(most, x.cons(0, 0)));
        int known = x.count(0);
        c.due(known, x.cons(most, 0));
        x = new StageConveyor();
        int heavy = Kit.heavy(x, 98);
        known = x.count(0);
        c.due(known, x.pair(heavy, 0));
        c.due("100", Kit.run(x, x.stage(Kit.only(x, known), 12, x.basic(28), 0), 5, 0, 0));
    }

    private static void depthOfTen() {
        c.about("TOO LARGE: a DEPTH above 10");
        x = new StageConveyor();
        int nine = Kit.deep(x, 9);
        int known = x.count(0);
        c.due(known, x.pair(nine, nine));
        c.due(known + 1, x.cons(nine, 0));
        c.due(-4, x.pair(known, 0));
        c.due(-4, x.pair(0, known));
        c.due(-4, x.cons(known, 0));
        c.due(-4, x.pair(known + 1, 0));
        c.due(-4, x.cons(known + 1, 0));
        // behind another element, too, and the LIST itself may be 10 deep
        c.due(known + 2, x.cons(0, known + 1));
        c.due(-4, x.cons(known, x.cons(0, 0)));
    }

    private static void listOfForty() {
        c.about("TOO LARGE: a LIST of more than 40");
        x = new StageConveyor();
        int forty = Kit.times(x, 0, 40);
        c.due(40, forty);
        c.due(-4, x.cons(0, forty));
        c.due(41, x.count(0));
        c.due("40", of(18, forty));
        // there is room for it in another
        c.due(1, x.cons(forty, 0) > 0 ? 1 : 0);
    }

    private static void pairRefused() {
        c.about("promise 5: -2, no such VALUE");
        x = new StageConveyor();
        x.whole(1);
        int[] none = {-1, 2, 3, 60, Integer.MAX_VALUE, Integer.MIN_VALUE};
        for (int n : none) {
            c.due(-2, x.pair(n, 0));
            c.due(-2, x.pair(1, n));
            c.due(-2, x.pair(n, n));
        }
        c.due(2, x.count(0));
        c.due(1, x.count(7));
        c.due(2, x.pair(1, 0));
        c.due(3, x.pair(0, 1));
        c.due(4, x.pair(2, 2));
        c.due("(1, [])", shown(2));
        c.due("([], 1)", shown(3));
        c.due("((1, []), (1, []))", shown(4));
    }

    private static void consRefused() {
        c.about("promise 6: -2, no such VALUE");
        x = new StageConveyor();
        int one = x.whole(1);
        int[] none = {-1, 2, 3, 60, Integer.MAX_VALUE, Integer.MIN_VALUE};
        for (int n : none) {
            c.due(-2, x.cons(n, 0));
            c.due(-2, x.cons(1, n));
        }
        c.about("promise 6: -2, b is no LIST");
        int[] others = {one, x.real(1.0), x.word(0), x.word(1), x.pair(0, 0)};
        for (int n : others) {
            c.due(-2, x.cons(one, n));
        }
        c.due(6, x.count(0));
        c.about("promise 6: VALUE a, and then those of LIST b");
        c.due(6, x.cons(0, 0));
        c.due(7, x.cons(one, 6));
        c.due("[[]]", shown(6));
        c.due("[1, []]", shown(7));
    }

    /** Each way to make a VALUE makes the 60th, and no 61st. */
    private static void sixtieth() {
        c.about("promises 2 to 6: -4, 60 VALUES are there");
        Check.Answer[] makers = {o -> o.whole(5), o -> o.real(0.5), o -> o.word(1), o -> o.pair(1, 1), o -> o.cons(1, 0)};
        for (Check.Answer maker : makers) {
            StageConveyor o = new StageConveyor();
            for (int i = 1; i < 59; i++) {
                c.due(i, o.whole(i));
            }
            c.due(59, maker.of(o));
            c.due(-4, maker.of(o));
            c.due(60, o.count(0));
            c.due(59, o.count(7));
            c.due(0, o.undo());
            c.due(59, maker.of(o));
        }
    }

    /** VALUES in their ORDER, no two of them SAME. */
    private static int[] inOrder() {
        int min = x.whole(Long.MIN_VALUE);
        int less = x.whole(-1);
        int one = x.whole(1);
        int max = x.whole(Long.MAX_VALUE);
        int low = x.real(-Double.MAX_VALUE);
        int nought = x.real(0.0);
        int tiny = x.real(Double.MIN_VALUE);
        int unit = x.real(1.0);
        int empty = x.word(0);
        int a = Kit.word(x, "a");
        int aa = Kit.word(x, "aa");
        int az = Kit.word(x, "azzzzzzzzzzz");
        int b = Kit.word(x, "b");
        int zy = Kit.word(x, "zzzzzzzzzzzy");
        int zz = Kit.word(x, "zzzzzzzzzzzz");
        int p1 = x.pair(less, 0);
        int p2 = x.pair(one, less);
        int p3 = x.pair(one, max);
        int p4 = x.pair(one, low);
        int p5 = x.pair(0, min);
        int l1 = x.cons(less, 0);
        int l2 = Kit.list(x, less, 0);
        int l3 = Kit.list(x, less, 0, min);
        int l4 = x.cons(one, 0);
        int l5 = x.cons(0, 0);
        return new int[] {min, less, one, max, low, nought, tiny, unit, empty, a, aa, az, b, zy, zz, p1, p2, p3, p4,
            p5, 0, l1, l2, l3, l4, l5};
    }

    private static void same() {
        c.about("Terms: SAME");
        for (int i = 0; i < 26; i++) {
            x = new StageConveyor();
            int[] values = inOrder();
            // the same elements, gathered by a RUN: no VALUE there is the one that f is BOUND to
            int f = x.bind(x.basic(43), values[i], i % 2 == 0);
            int lists = x.stage(Kit.row(x, values), 12, f, 0);
            StringBuilder due = new StringBuilder();
            for (int j = 0; j < 26; j++) {
                due.append(j == 0 ? "[" : ", ").append(i == j ? 1 : 0);
            }
            c.due(due + "]", Kit.all(x, lists));
        }
        c.about("Terms: SAME, of VALUES that were made apart");
        x = new StageConveyor();
        int[] one = {x.whole(7), x.whole(7), x.real(0.5), x.real(0.5), Kit.word(x, "ab"), Kit.word(x, "ab")};
        int[] two = {x.pair(one[0], one[2]), x.pair(one[1], one[3]), Kit.list(x, one[0], one[4]), Kit.list(x, one[1], one[5])};
        int f = x.basic(43);
        for (int i = 0; i < 6; i += 2) {
            c.due("1", Kit.call(x, f, one[i], one[i + 1]));
        }
        c.due("1", Kit.call(x, f, two[0], two[1]));
        c.due("1", Kit.call(x, f, two[2], two[3]));
        c.due("0", Kit.call(x, f, two[0], two[2]));
        c.due("1", Kit.call(x, f, x.real(-0.0), x.real(0.0)));
    }

    /** 31 times this is 1, by wrapping: LONGS can have the HASH of any other VALUE. */
    private static final long INVERSE = 0xef7bdef7bdef7bdfL;

    private static void sameDespiteHash() {
        c.about("Terms: SAME goes by KINDS and parts, not by the HASH");
        c.due(1, 31 * INVERSE);
        x = new StageConveyor();
        int f = x.basic(43);
        int ahead = x.basic(44);
        int nought = x.real(0.0);
        int alike = x.whole(INVERSE);
        c.due("0", Kit.call(x, f, nought, alike));
        c.due(x.argument(0, false), x.argument(0, true));
        c.due("1", Kit.call(x, ahead, alike, nought));
        int empty = x.whole(4 * INVERSE);
        c.due("0", Kit.call(x, f, 0, empty));
        c.due(x.argument(0, false), x.argument(0, true));
        int word = x.word(0);
        c.due("0", Kit.call(x, f, word, x.whole(2 * INVERSE)));
        c.due(x.argument(0, false), x.argument(0, true));
        c.due("0", Kit.call(x, f, x.real(0.01), x.real(0.02)));
        c.due(x.argument(0, false), x.argument(0, true));
        // in a LIST, and with another one's parts, too
        c.due("0", Kit.call(x, f, Kit.list(x, 0), Kit.list(x, empty)));
        c.due(x.argument(0, false), x.argument(0, true));
        c.due("0", Kit.call(x, f, x.pair(nought, 0), x.pair(alike, 0)));
        c.due(x.argument(0, false), x.argument(0, true));
        x = new StageConveyor();
        int p = Kit.row(x, x.real(0.0), x.whole(INVERSE), x.real(0.0), x.real(0.01), 0, x.whole(4 * INVERSE), 0);
        String due = "[0.0, " + INVERSE + ", 0.01, [], " + 4 * INVERSE + "]";
        c.due(due, Kit.all(x, x.stage(p, 19, 0, 0)));
        c.due(due, Kit.run(x, p, 13, 0, 0));
        int q = Kit.row(x, x.real(0.0));
        int r = Kit.row(x, x.whole(INVERSE));
        c.due(0, x.equal(q, r, 5, 0, 0));
        c.due(0, x.equal(q, r, 10, 0, 0));
    }

    private static void order() {
        c.about("Terms: ORDER");
        for (int i = 0; i < 26; i++) {
            x = new StageConveyor();
            int[] values = inOrder();
            int ahead = x.basic(44);
            int row = Kit.row(x, values);
            StringBuilder behind = new StringBuilder();
            StringBuilder before = new StringBuilder();
            for (int j = 0; j < 26; j++) {
                behind.append(j == 0 ? "[" : ", ").append(j > i ? 1 : 0);
                before.append(j == 0 ? "[" : ", ").append(j < i ? 1 : 0);
            }
            c.due(behind + "]", Kit.all(x, x.stage(row, 12, x.bind(ahead, values[i], false), 0)));
            c.due(before + "]", Kit.all(x, x.stage(row, 12, x.bind(ahead, values[i], true), 0)));
        }
        c.about("Terms: ORDER, the least and the greatest of all");
        x = new StageConveyor();
        int[] values = inOrder();
        int row = Kit.row(x, values);
        int turned = x.stage(row, 21, 0, 0);
        c.due("-9223372036854775808", Kit.run(x, row, 3, -1, 0));
        c.due("-9223372036854775808", Kit.run(x, turned, 3, -1, 0));
        c.due("[[]]", Kit.run(x, row, 4, -1, 0));
        c.due("[[]]", Kit.run(x, turned, 4, -1, 0));
        c.due(1, x.equal(row, x.stage(turned, 20, -1, 0), 10, 0, 0));
        c.due(1, x.equal(row, x.stage(row, 20, -1, 0), 10, 0, 0));
    }

    private static void dueHash(long due, int value) {
        int f = x.basic(25);
        c.due(Long.toString(due), Kit.call(x, f, value));
        c.due(due, x.argument(0, false));
    }

    private static void hashOfLongs() {
        c.about("Terms: HASH of a LONG, that wraps");
        x = new StageConveyor();
        long[] edges = {0, 1, -1, Long.MAX_VALUE, Long.MIN_VALUE, Long.MAX_VALUE / 31, Long.MAX_VALUE / 31 + 1};
        for (long v : edges) {
            dueHash(31 * v + 1, x.whole(v));
        }
        c.about("Terms: HASH of a LONG, by numbers");
        dueHash(1, x.whole(0));
        dueHash(-30, x.whole(-1));
        dueHash(9223372036854775778L, x.whole(Long.MAX_VALUE));
        dueHash(-9223372036854775807L, x.whole(Long.MIN_VALUE));
    }

    private static void hashOfReals() {
        c.about("Terms: HASH of a REAL, 8 x cut towards 0");
        x = new StageConveyor();
        double[] of = {0.0, 0.124, 0.125, 0.249, -0.124, -0.125, -0.249, -0.25, 1e3};
        long[] cut = {0, 0, 1, 1, 0, -1, -1, -2, 8000};
        for (int i = 0; i < of.length; i++) {
            dueHash(31 * cut[i] + 2, x.real(of[i]));
        }
        c.about("Terms: HASH of a REAL, beyond a long: the greatest, the least one");
        x = new StageConveyor();
        double two60 = 1152921504606846976.0;
        dueHash(31 * 9223372036854774784L + 2, x.real(Math.nextDown(two60)));
        dueHash(31 * Long.MAX_VALUE + 2, x.real(two60));
        dueHash(31 * Long.MAX_VALUE + 2, x.real(Math.nextUp(two60)));
        dueHash(31 * Long.MAX_VALUE + 2, x.real(Double.MAX_VALUE));
        dueHash(31 * -9223372036854774784L + 2, x.real(-Math.nextDown(two60)));
        dueHash(31 * Long.MIN_VALUE + 2, x.real(-two60));
        dueHash(31 * Long.MIN_VALUE + 2, x.real(-Math.nextUp(two60)));
        dueHash(31 * Long.MIN_VALUE + 2, x.real(-Double.MAX_VALUE));
    }

    private static void hashOfWords() {
        c.about("Terms: HASH of a WORD, a 1 .. z 26");
        x = new StageConveyor();
        dueHash(3, x.word(0));
        dueHash(3 * 31 + 1, x.word(1));
        dueHash(3 * 31 + 26, x.word(26));
        dueHash((3 * 31 + 26) * 31 + 1, Kit.word(x, "za"));
        long so = 3;
        for (int i = 0; i < 12; i++) {
            so = 31 * so + 26;
        }
        dueHash(so, Kit.word(x, "zzzzzzzzzzzz"));
        so = 3;
        for (char letter : "abcdefghijkl".toCharArray()) {
            so = 31 * so + (letter - 'a' + 1);
        }
        dueHash(so, Kit.word(x, "abcdefghijkl"));
    }

    private static void hashOfPairsAndLists() {
        c.about("Terms: HASH of a PAIR and of a LIST");
        x = new StageConveyor();
        int max = x.whole(Long.MAX_VALUE);
        int one = x.whole(1);
        long hMax = 31 * Long.MAX_VALUE + 1;
        int pair = x.pair(max, one);
        long hPair = 31 * (31 * hMax + 32) + 4;
        dueHash(hPair, pair);
        dueHash(31 * (31 * 32 + hMax) + 4, x.pair(one, max));
        dueHash(31 * (31 * 5 + 5) + 4, x.pair(0, 0));
        dueHash(5, 0);
        dueHash(5 * 31 + 5, x.cons(0, 0));
        dueHash((5 * 31 + 32) * 31 + hPair, Kit.list(x, one, pair));
        x = new StageConveyor();
        long so = 5;
        for (int i = 0; i < 40; i++) {
            so = 31 * so + 32;
        }
        dueHash(so, Kit.times(x, x.whole(1), 40));
    }
}
