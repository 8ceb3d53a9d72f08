/** Promises 21 and 22: foretell() and equal(). */
public final class ForetellTest {
    private static final Check c = new Check("ForetellTest");

    public static void main(String[] args) {
        foretell();
        foretellRefused();
        equal();
        equalRefused();
        c.finish();
    }

    private static void foretell() {
        c.about("promise 21");
        StageConveyor x = new StageConveyor();
        int flaky = x.basic(27);
        int f = x.basic(0);
        int p = x.range(0, 5);
        int words = x.guard(x.row(Kit.word(x, "ab")), 6, -3);
        int bad = x.stage(p, 12, flaky, 0);
        c.due(4, x.foretell(p, 10, 0, 0));
        c.due(10, x.count(6));
        // of foretold ones nothing is told
        c.due(-1, x.kind(0));
        c.due(0, x.count(4));
        c.due(0, x.count(5));
        c.due(0, x.given(p));
        c.due("4", Kit.run(x, p, 19, 0, 0));
        c.due(15, x.count(6));
        String before = Kit.besidesSteps(x);
        c.due(-107, x.foretell(bad, 10, 0, 0));
        c.due(-108, x.foretell(words, 10, 0, 0));
        c.due(0, x.foretell(p, 12, f, 0));
        c.due(15 + 2 + 4 + 10, x.count(6));
        // nothing changes, but the STEPS of all
        c.due(before, Kit.besidesSteps(x));
        // not SPENT by it
        c.due(0, x.look(words, 8));
        c.due(-108, x.foretell(words, 10, 0, 0));
        c.due(-108, x.run(words, 10, 0, 0));
        // it is what run() answers, for a failure by its calls' numbers, too
        int tried = x.stage(p, 28, flaky, 2);
        c.due(4, x.foretell(tried, 10, 0, 0));
        c.due(4, x.foretell(tried, 10, 0, 0));
        c.due(4, x.run(tried, 10, 0, 0));
        c.due(15, x.calls(flaky));
    }

    private static void foretellRefused() {
        c.about("promise 21, refusals");
        StageConveyor x = new StageConveyor();
        int p = x.range(0, 5);
        int words = x.row(Kit.word(x, "ab"));
        c.due(-1, x.foretell(-1, 0, 0, 0));
        c.due(-1, x.foretell(2, 99, 0, 0));
        c.due(-2, x.foretell(p, 20, 0, 0));
        c.due(-2, x.foretell(p, -1, 0, 0));
        c.due(-2, x.foretell(p, 6, 0, 0));
        c.due(-2, x.foretell(p, 11, 0, 1001));
        c.due(-3, x.foretell(p, 16, 0, 0));
        c.due(0, x.count(6));
        x.run(words, 0, 0, 0);
        c.due(-5, x.foretell(words, 0, 0, 0));
        c.due(-3, x.foretell(words, 1, 0, 0));
        int long600 = x.range(0, 600);
        for (int i = 0; i < 27; i++) {
            c.due(0, x.foretell(long600, 0, 0, 0));
        }
        c.due(27 * 600 + 2, x.count(6));
        c.due(-6, x.foretell(long600, 0, 0, 0));
        c.due(-6, x.run(p, 0, 0, 0));
        c.due(-5, x.foretell(words, 0, 0, 0));
    }

    private static void equal() {
        c.about("promise 22");
        StageConveyor x = new StageConveyor();
        int p = x.range(0, 4);
        int q = x.row(Kit.longs(x, 0, 1, 2, 3));
        int r = x.stage(p, 21, 0, 0);
        c.due(1, x.equal(p, q, 10, 0, 0));
        c.due(16, x.count(6));
        c.due(0, x.equal(p, r, 10, 0, 0));
        c.due(1, x.equal(p, r, 1, 0, 0));
        c.due(1, x.equal(p, p, 10, 0, 0));
        // a beginning isn't SAME
        c.due(0, x.equal(p, x.range(0, 3), 10, 0, 0));
        c.due(0, x.equal(x.range(0, 3), p, 10, 0, 0));
        // neither is another KIND with the same numbers
        int ones = x.row(Kit.longs(x, 1));
        int reals = Kit.row(x, x.real(1.0));
        int word = Kit.row(x, x.word(1));
        c.due(0, x.equal(ones, reals, 5, 0, 0));
        c.due(0, x.equal(ones, word, 5, 0, 0));
        c.due(0, x.equal(ones, word, 10, 0, 0));
        int half = Kit.row(x, x.real(0.5));
        c.due(0, x.equal(reals, half, 5, 0, 0));
        int one = x.whole(1);
        int pair = Kit.row(x, x.pair(one, one));
        int list = Kit.row(x, Kit.list(x, one, one));
        c.due(0, x.equal(pair, list, 5, 0, 0));
        c.due(1, x.equal(pair, pair, 5, 0, 0));
        // the same parts, otherwise put together
        int left = Kit.row(x, Kit.list(x, Kit.list(x, one), one));
        int right = Kit.row(x, Kit.list(x, Kit.list(x, one, one)));
        c.due(0, x.equal(left, right, 5, 0, 0));
        c.about("promise 22, failures");
        int fails = x.guard(p, 7, 1);
        int failsLater = x.guard(q, 7, 2);
        int flaky = x.stage(p, 12, x.basic(27), 0);
        c.due(1, x.equal(fails, failsLater, 10, 0, 0));
        c.due(0, x.equal(fails, flaky, 10, 0, 0));
        c.due(0, x.equal(fails, p, 10, 0, 0));
        c.due(0, x.equal(p, fails, 10, 0, 0));
        c.due(0, x.equal(x.range(0, 0), fails, 0, 0, 0));
        // nothing is told, and nothing SPENT
        c.due(-1, x.kind(0));
        c.due(0, x.count(4));
        int words = x.row(Kit.word(x, "ab"));
        c.due(1, x.equal(words, words, 10, 0, 0));
        c.due(0, x.look(words, 8));
        c.due(4, x.run(words, 10, 0, 0));
    }

    private static void equalRefused() {
        c.about("promise 22, refusals");
        StageConveyor x = new StageConveyor();
        int p = x.range(0, 600);
        int words = x.row(Kit.word(x, "ab"));
        int steps = x.steps(0.0, 1.0, 1);
        c.due(-1, x.equal(-1, p, 0, 0, 0));
        c.due(-1, x.equal(p, 3, 0, 0, 0));
        c.due(-2, x.equal(p, 3, 20, 0, 0));
        c.due(-1, x.equal(3, p, 20, 0, 0));
        c.due(-2, x.equal(p, p, 12, 0, 0));
        c.due(-3, x.equal(p, steps, 1, 0, 0));
        c.due(-3, x.equal(steps, p, 1, 0, 0));
        c.due(0, x.count(6));
        x.run(words, 0, 0, 0);
        c.due(-5, x.equal(words, p, 0, 0, 0));
        c.due(-5, x.equal(p, words, 0, 0, 0));
        c.due(-5, x.equal(words, 3, 0, 0, 0));
        c.due(2, x.count(6));
        for (int i = 0; i < 13; i++) {
            c.due(1, x.equal(p, p, 0, 0, 0));
        }
        c.due(15602, x.count(6));
        // -6 goes by what had been taken ahead of p's
        c.due(1, x.equal(p, p, 0, 0, 0));
        c.due(16802, x.count(6));
        c.due(-6, x.equal(p, p, 0, 0, 0));
        c.due(-6, x.equal(p, words, 0, 0, 0));
        c.due(-5, x.equal(words, p, 0, 0, 0));
    }
}
