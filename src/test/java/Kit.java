/** What several tests build and read. */
final class Kit {
    private Kit() {
    }

    /** The digits of a WORD, as word() takes them. */
    static long digits(String letters) {
        long so = 0;
        for (int i = 0; i < letters.length(); i++) {
            so = 27 * so + (letters.charAt(i) - 'a' + 1);
        }
        return so;
    }

    static int word(StageConveyor x, String letters) {
        return x.word(digits(letters));
    }

    /** The LIST of VALUES by their numbers. */
    static int list(StageConveyor x, int... values) {
        int made = 0;
        for (int i = values.length - 1; i >= 0; i--) {
            made = x.cons(values[i], made);
        }
        return made;
    }

    /** The LIST of LONGS. */
    static int longs(StageConveyor x, long... values) {
        int made = 0;
        for (int i = values.length - 1; i >= 0; i--) {
            made = x.cons(x.whole(values[i]), made);
        }
        return made;
    }

    /** The LIST of n times one VALUE. */
    static int times(StageConveyor x, int value, int n) {
        int made = 0;
        for (int i = 0; i < n; i++) {
            made = x.cons(value, made);
        }
        return made;
    }

    /** A LIST of this WEIGHT, from 11 to 100: others of 10 in it, and what is left as LONGS. */
    static int heavy(StageConveyor x, int weight) {
        int one = x.whole(1);
        int ten = times(x, one, 9);
        int made = times(x, ten, (weight - 1) / 10);
        for (int i = 0; i < (weight - 1) % 10; i++) {
            made = x.cons(one, made);
        }
        return made;
    }

    /** PAIRS in one another, of this DEPTH (1: a LONG). */
    static int deep(StageConveyor x, int depth) {
        int one = x.whole(1);
        int made = one;
        for (int i = 1; i < depth; i++) {
            made = x.pair(made, one);
        }
        return made;
    }

    /** A PIPELINE of these VALUES. */
    static int row(StageConveyor x, int... values) {
        return x.row(list(x, values));
    }

    /** A PIPELINE of just this VALUE, of KIND ANY; no LIST is around it, so it may be the largest. */
    static int only(StageConveyor x, int value) {
        int itself = x.bind(x.basic(49), 0, true);
        return x.iterate(itself, value, 1, false);
    }

    /** The RESULT of the latest RUN, written out: 7, 0.5, "ab", (1, 2), [1, 2]; or none. */
    static String result(StageConveyor x) {
        return x.kind(0) < 0 ? "none" : part(x, 0);
    }

    private static String part(StageConveyor x, int n) {
        switch (x.kind(n)) {
            case 0:
                return Long.toString(x.told(n));
            case 1:
                return Double.toString(x.measured(n));
            case 2:
                return "\"" + letters(x.told(n)) + "\"";
            case 3:
                return "(" + parts(x, n) + ")";
            case 4:
                return "[" + parts(x, n) + "]";
            default:
                return "?" + x.kind(n);
        }
    }

    private static String parts(StageConveyor x, int n) {
        StringBuilder so = new StringBuilder();
        for (int i = 0; i < x.size(n); i++) {
            so.append(i == 0 ? "" : ", ").append(part(x, x.part(n, i)));
        }
        return so.toString();
    }

    private static String letters(long digits) {
        StringBuilder so = new StringBuilder();
        for (long rest = digits; rest > 0; rest /= 27) {
            so.append((char) ('a' + rest % 27 - 1));
        }
        return so.reverse().toString();
    }

    /** Runs p to an END: the RESULT, or the failure with AT and GIVEN, or the refusal. */
    static String run(StageConveyor x, int p, int end, int f, int a) {
        int answer = x.run(p, end, f, a);
        if (answer <= -100) {
            return "fails " + x.failure(0) + " at " + x.failure(1) + " given " + x.failure(2);
        }
        if (answer < 0) {
            return "refused " + answer;
        }
        return answer == x.kind(0) ? result(x) : "answered " + answer;
    }

    /** The LIST of all that p gives. */
    static String all(StageConveyor x, int p) {
        return run(x, p, 10, 0, 0);
    }

    /** What FUNCTION f gives of one VALUE; a failure is AT the end, so its number tells it. */
    static String call(StageConveyor x, int f, int value) {
        int p = row(x, value);
        int m = x.stage(p, 12, f, 0);
        return m < 0 ? "refused " + m : shortly(x, m);
    }

    /** What FUNCTION f gives of two VALUES. */
    static String call(StageConveyor x, int f, int value, int second) {
        int p = row(x, value);
        int q = row(x, second);
        int m = x.both(p, q, 9, f);
        return m < 0 ? "refused " + m : shortly(x, m);
    }

    private static String shortly(StageConveyor x, int m) {
        int answer = x.run(m, 5, 0, 0);
        return answer <= -100 ? "fails " + x.failure(0) : result(x);
    }

    /** The CALLS of the latest RUN, by FUNCTIONS. */
    static String calls(StageConveyor x) {
        StringBuilder so = new StringBuilder();
        for (int k = 0; x.call(k) >= 0; k++) {
            so.append(k == 0 ? "" : " ").append(x.call(k));
        }
        return so.toString();
    }

    /** All that can be asked without changing anything, to see that nothing has changed. */
    static String state(StageConveyor x) {
        return "STEPS of all " + x.count(6) + ", " + besidesSteps(x);
    }

    /** state() without the STEPS of all, which foretold RUNS take, too. */
    static String besidesSteps(StageConveyor x) {
        return "rules " + rules(x) + ", " + besidesRules(x);
    }

    /** How often each rule was used in the latest rewrite(). */
    static String rules(StageConveyor x) {
        StringBuilder so = new StringBuilder();
        for (int k = 0; k < 9; k++) {
            so.append(x.rule(k));
        }
        return so.toString();
    }

    /** besidesSteps() without rule(), which undo() leaves as it is. */
    static String besidesRules(StageConveyor x) {
        StringBuilder so = new StringBuilder();
        for (int i = 0; i < 8; i++) {
            so.append(i == 6 ? "" : x.count(i) + " ");
        }
        for (int i = 0; i < 5; i++) {
            so.append(x.failure(i)).append(' ');
        }
        for (int p = 0; p < x.count(3); p++) {
            for (int what = 0; what < 9; what++) {
                so.append(x.look(p, what)).append(' ');
            }
            so.append(x.given(p)).append(' ');
        }
        for (int f = 0; f < x.count(1); f++) {
            for (int what = 0; what < 5; what++) {
                so.append(x.shape(f, what)).append(' ');
            }
            so.append(x.calls(f)).append(' ');
        }
        for (int k = 0; k < x.failure(3); k++) {
            so.append(x.closed(k, false)).append(' ');
        }
        for (int k = 0; k < x.failure(4); k++) {
            so.append(x.closed(k, true)).append(' ');
        }
        return so.append(calls(x)).append(' ').append(result(x)).toString();
    }
}
