import java.util.ArrayList;

/**
 * A conveyor: elements come from sources one by one, go through stages, to an end.
 * The words in capitals are the document's own.
 */
public final class StageConveyor {
    private static final int LONG = 0;
    private static final int REAL = 1;
    private static final int WORD = 2;
    private static final int PAIR = 3;
    private static final int LIST = 4;
    private static final int ANY = 5;

    private static final int NO_PIPELINE = -1;
    private static final int NO_SUCH = -2;
    private static final int NO_FIT = -3;
    private static final int NO_ROOM = -4;
    private static final int IS_SPENT = -5;
    private static final int ALL_TAKEN = -6;

    private static final int BY_KIND = 1;
    private static final int BY_ZERO = 2;
    private static final int BY_BOUNDS = 3;
    private static final int BY_SIZE = 4;
    private static final int BY_RANGE = 5;
    private static final int BY_SOURCE = 6;
    private static final int BY_FLAKY = 7;
    private static final int BY_CLOSE = 8;
    private static final int BY_STEPS = 9;
    private static final int BY_NONE = 10;

    private static final int RANGE = 0;
    private static final int ITERATE = 1;
    private static final int UNFOLD = 2;
    private static final int STEPS = 3;
    private static final int ROW = 4;
    private static final int LETTERS = 5;
    private static final int OPENED = 6;
    private static final int FAILING = 7;
    private static final int JOINED = 8;
    private static final int ZIPPED = 9;
    private static final int INTERLEAVED = 10;
    private static final int KEPT = 11;
    private static final int MAPPED = 12;
    private static final int FLAT = 13;
    private static final int PEEKED = 14;
    private static final int SKIPPED = 15;
    private static final int TAKEN = 16;
    private static final int WHILE = 17;
    private static final int FROM = 18;
    private static final int DIFFERENT = 19;
    private static final int SORTED = 20;
    private static final int REVERSED = 21;
    private static final int WINDOW = 22;
    private static final int CHUNK = 23;
    private static final int BESIDE = 24;
    private static final int FOLDED = 25;
    private static final int GROUPED = 26;
    private static final int RESCUED = 27;
    private static final int RETRIED = 28;
    private static final int LIMITED = 29;
    private static final int CACHED = 30;

    private static final int LAST_END = 19;

    private static final int MOST_VALUES = 60;
    private static final int MOST_FUNCTIONS = 60;
    private static final int MOST_COMPARATORS = 20;
    private static final int MOST_PIPELINES = 80;
    private static final int MOST_KEYS = 4;
    private static final int MOST_FUNCTION_SIZE = 20;
    private static final int MOST_PIPELINE_SIZE = 40;
    private static final int MOST_ELEMENTS = 40;
    private static final int MOST_WEIGHT = 100;
    private static final int MOST_DEPTH = 10;
    private static final int MOST_LETTERS = 12;
    private static final int MOST_STEPS = 600;
    private static final int MOST_STEPS_OF_ALL = 16000;
    private static final int CALLS_KEPT = 100;
    private static final int RULES = 9;
    /** More buildings than this can't stand at once: each takes one of the rooms above. */
    private static final int MOST_BUILDINGS = 220;
    /** Far above what any loop of a RUN can need: its STEPS end it long before. */
    private static final int MANY = 1000000;

    /** What a stage or an end wants of f. */
    private static final int NOTHING = 0;
    private static final int ONE = 1;
    private static final int TWO = 2;
    private static final int COMPARATOR = 3;

    /** What a stage or an end wants of a, where that is no greatest number. */
    private static final int UNUSED = -1;
    private static final int A_VALUE = -2;

    /** By SORT, from 11 on. */
    private static final int[] STAGE_F = {
        ONE, ONE, ONE, ONE, NOTHING, NOTHING, ONE, ONE, NOTHING, COMPARATOR,
        NOTHING, NOTHING, NOTHING, NOTHING, TWO, ONE, NOTHING, ONE, NOTHING, NOTHING};
    private static final int[] STAGE_LEAST_A = {
        0, 0, 0, 0, 0, 0, 0, 0, 0, 0,
        0, 1, 1, 0, 0, 0, 0, 1, 0, 0};
    private static final int[] STAGE_MOST_A = {
        UNUSED, UNUSED, UNUSED, UNUSED, 1000, 1000, UNUSED, UNUSED, UNUSED, UNUSED,
        UNUSED, 10, 10, UNUSED, A_VALUE, UNUSED, A_VALUE, 3, 10000, UNUSED};
    private static final int[] STAGE_ANSWER = {
        LONG, ANY, LIST, ANY, ANY, ANY, LONG, LONG, ANY, ANY,
        ANY, ANY, ANY, ANY, ANY, ANY, ANY, ANY, ANY, ANY};

    /** By END. */
    private static final int[] END_F = {
        NOTHING, NOTHING, NOTHING, COMPARATOR, COMPARATOR, NOTHING, ONE, ONE, ONE, TWO,
        NOTHING, NOTHING, ONE, NOTHING, ONE, ONE, NOTHING, NOTHING, COMPARATOR, NOTHING};
    private static final int[] END_LEAST_A = {
        0, 0, 0, 0, 0, 0, 0, 0, 0, 0,
        0, 0, 0, 0, 0, 0, 0, 0, 1, 0};
    private static final int[] END_MOST_A = {
        UNUSED, UNUSED, UNUSED, UNUSED, UNUSED, UNUSED, UNUSED, UNUSED, UNUSED, A_VALUE,
        UNUSED, 1000, UNUSED, UNUSED, UNUSED, UNUSED, UNUSED, UNUSED, 10, UNUSED};
    private static final int[] END_ANSWER = {
        ANY, ANY, ANY, ANY, ANY, ANY, LONG, LONG, LONG, ANY,
        ANY, ANY, ANY, ANY, ANY, LONG, ANY, ANY, ANY, ANY};
    private static final int[] END_ELEMENT = {
        ANY, LONG, REAL, ANY, ANY, ANY, ANY, ANY, ANY, ANY,
        ANY, ANY, ANY, ANY, ANY, ANY, WORD, LONG, ANY, ANY};

    /** The BASIC FUNCTIONS by CODE; there is no CODE 29. */
    private static final int NO_CODE = 29;
    private static final int FIRST_OF_TWO = 30;
    private static final int LAST_CODE = 50;
    private static final int[] ASKS = {
        LONG, LONG, LONG, LONG, LONG, LONG, LONG, LONG, REAL, REAL,
        REAL, WORD, WORD, WORD, WORD, PAIR, PAIR, PAIR, LIST, LIST,
        LIST, LIST, LIST, ANY, ANY, ANY, ANY, ANY, ANY, ANY,
        LONG, LONG, LONG, LONG, LONG, LONG, LONG, LONG, REAL, REAL,
        REAL, REAL, WORD, ANY, ANY, ANY, ANY, LIST, LIST, ANY,
        ANY};
    /** From CODE 30 on. */
    private static final int[] ASKS_SECOND = {
        LONG, LONG, LONG, LONG, LONG, LONG, LONG, LONG, REAL, REAL,
        REAL, REAL, WORD, ANY, ANY, ANY, LIST, LIST, LONG, ANY,
        ANY};
    private static final int[] ANSWERS = {
        LONG, LONG, LONG, LONG, LONG, LONG, LONG, REAL, LONG, REAL,
        REAL, LONG, WORD, LIST, WORD, ANY, ANY, PAIR, LONG, ANY,
        LIST, LIST, LONG, LIST, LONG, LONG, PAIR, ANY, LONG, ANY,
        LONG, LONG, LONG, LONG, LONG, LONG, LONG, LONG, REAL, REAL,
        REAL, LONG, WORD, LONG, LONG, PAIR, LIST, LIST, ANY, ANY,
        ANY};

    /** 27 to the powers 0 to 12. */
    private static final long[] POWERS = {
        1L, 27L, 729L, 19683L, 531441L, 14348907L, 387420489L, 10460353203L,
        282429536481L, 7625597484987L, 205891132094649L, 5559060566555523L,
        150094635296999121L};

    /** What undo() answers. */
    private static final int BUILT_VALUE = 0;
    private static final int BUILT_FUNCTION = 1;
    private static final int BUILT_COMPARATOR = 2;
    private static final int BUILT_PIPELINE = 3;
    private static final int BUILT_REWRITE = 4;

    private final Stock stock = new Stock();
    private final Caller caller = new Caller(stock);
    private final Line line = new Line(stock, caller);
    private final Ender ender = new Ender(stock, caller, line);
    private final Rewriter rewriter = new Rewriter(stock);
    private final Tale latest = new Tale();
    private final Tale foretold = new Tale();
    private final Tale foretoldNext = new Tale();
    private final int[] rulesUsed = new int[RULES];
    private final int[] built = new int[MOST_BUILDINGS];
    private final int[] pipesBuilt = new int[MOST_BUILDINGS];
    private final int[] functionsBuilt = new int[MOST_BUILDINGS];
    private final int[] spentByIt = new int[MOST_BUILDINGS];
    private final int[] alsoSpentByIt = new int[MOST_BUILDINGS];
    private int buildings = 0;
    private int stepsOfAll = 0;

    public StageConveyor() {
        stock.values[0] = new Val().seat(0).close(LIST);
        stock.valueCount = 1;
    }

    public int whole(long v) {
        if (stock.valueCount >= MOST_VALUES) {
            return NO_ROOM;
        }
        return addValue(new Val().beWhole(v));
    }

    public int real(double v) {
        if (!isFinite(v)) {
            return NO_SUCH;
        }
        if (stock.valueCount >= MOST_VALUES) {
            return NO_ROOM;
        }
        return addValue(new Val().beReal(v));
    }

    public int word(long letters) {
        int length = lettersIn(letters);
        if (length < 0) {
            return NO_SUCH;
        }
        if (stock.valueCount >= MOST_VALUES) {
            return NO_ROOM;
        }
        return addValue(new Val().beWord(letters, length));
    }

    public int pair(int a, int b) {
        if (!stock.hasValue(a) || !stock.hasValue(b)) {
            return NO_SUCH;
        }
        if (stock.valueCount >= MOST_VALUES) {
            return NO_ROOM;
        }
        Val made = new Val().seat(2);
        made.parts[0] = stock.values[a];
        made.parts[1] = stock.values[b];
        made.close(PAIR);
        return made.isTooLarge() ? NO_ROOM : addValue(made);
    }

    public int cons(int a, int b) {
        if (!stock.hasValue(a) || !stock.hasValue(b) || stock.values[b].kind != LIST) {
            return NO_SUCH;
        }
        Val tail = stock.values[b];
        if (stock.valueCount >= MOST_VALUES || tail.size >= MOST_ELEMENTS) {
            return NO_ROOM;
        }
        Val made = new Val().seat(tail.size + 1);
        made.parts[0] = stock.values[a];
        for (int i = 0; i < tail.size; i++) {
            made.parts[i + 1] = tail.parts[i];
        }
        made.close(LIST);
        return made.isTooLarge() ? NO_ROOM : addValue(made);
    }

    public int basic(int code) {
        if (code < 0 || code > LAST_CODE || code == NO_CODE) {
            return NO_SUCH;
        }
        if (stock.functionCount >= MOST_FUNCTIONS) {
            return NO_ROOM;
        }
        return addFunction(Fun.ofCode(code));
    }

    public int behind(int f, int g) {
        if (!stock.hasFunction(f, 1) || !stock.hasFunction(g)) {
            return NO_SUCH;
        }
        if (!fits(stock.functions[f].asks, stock.functions[g].answers)) {
            return NO_FIT;
        }
        Fun made = Fun.ofBoth(f, stock.functions[f], g, stock.functions[g]);
        return hasNoRoomFor(made) ? NO_ROOM : addFunction(made);
    }

    public int bind(int f, int value, boolean second) {
        if (!stock.hasFunction(f, 2) || !stock.hasValue(value)) {
            return NO_SUCH;
        }
        Fun inner = stock.functions[f];
        if (!fits(second ? inner.asksSecond : inner.asks, stock.values[value].kind)) {
            return NO_FIT;
        }
        Fun made = Fun.ofBound(f, inner, value, second);
        return hasNoRoomFor(made) ? NO_ROOM : addFunction(made);
    }

    public int exchange(int f) {
        if (!stock.hasFunction(f, 2)) {
            return NO_SUCH;
        }
        Fun made = Fun.ofExchanged(f, stock.functions[f]);
        return hasNoRoomFor(made) ? NO_ROOM : addFunction(made);
    }

    public int key(int f, boolean down) {
        if (!stock.hasFunction(f, 1)) {
            return NO_SUCH;
        }
        if (stock.comparatorCount >= MOST_COMPARATORS) {
            return NO_ROOM;
        }
        int made = stock.comparatorCount;
        stock.keyCount[made] = 0;
        stock.addKey(made, f, down);
        stock.comparatorCount++;
        noteBuilding(BUILT_COMPARATOR, 0, 0, -1, -1);
        return made;
    }

    public int then(int c, int d) {
        if (!stock.hasComparator(c) || !stock.hasComparator(d)
                || stock.keyCount[c] + stock.keyCount[d] > MOST_KEYS) {
            return NO_SUCH;
        }
        if (stock.comparatorCount >= MOST_COMPARATORS) {
            return NO_ROOM;
        }
        int made = stock.comparatorCount;
        stock.keyCount[made] = 0;
        stock.addKeysOf(made, c);
        stock.addKeysOf(made, d);
        stock.comparatorCount++;
        noteBuilding(BUILT_COMPARATOR, 0, 0, -1, -1);
        return made;
    }

    public int range(long a, long b) {
        // b - a wraps to below 0 where it is beyond a long: far above 10000, too
        if (b > a && (b - a < 0 || b - a > 10000)) {
            return NO_SUCH;
        }
        if (stock.pipeCount >= MOST_PIPELINES) {
            return NO_ROOM;
        }
        Pipe made = new Pipe(RANGE, LONG, true);
        made.from = a;
        made.many = b > a ? (int) (b - a) : 0;
        return addPipe(made);
    }

    public int iterate(int f, int value, int most, boolean second) {
        if (!stock.hasFunction(f, 1) || !stock.hasValue(value) || most < 0 || most > 1000) {
            return NO_SUCH;
        }
        Fun fun = stock.functions[f];
        int kind = stock.values[value].kind;
        if (!fits(fun.asks, kind) || !fits(fun.answers, second ? PAIR : fun.asks)) {
            return NO_FIT;
        }
        if (stock.pipeCount >= MOST_PIPELINES) {
            return NO_ROOM;
        }
        boolean keepsKind = !second && fun.answers == kind;
        Pipe made = new Pipe(second ? UNFOLD : ITERATE, keepsKind ? kind : ANY, false);
        made.f = f;
        made.a = most;
        made.many = most;
        made.value = value;
        return addPipe(made);
    }

    public int steps(double start, double by, int n) {
        if (n < 0 || n > 1000 || !isModest(start) || !isModest(by)) {
            return NO_SUCH;
        }
        if (stock.pipeCount >= MOST_PIPELINES) {
            return NO_ROOM;
        }
        Pipe made = new Pipe(STEPS, REAL, true);
        made.start = start;
        made.by = by;
        made.a = n;
        made.many = n;
        return addPipe(made);
    }

    public int row(int value) {
        if (!stock.hasValue(value)) {
            return NO_SUCH;
        }
        Val row = stock.values[value];
        if (row.kind != LIST && row.kind != WORD) {
            return NO_SUCH;
        }
        if (stock.pipeCount >= MOST_PIPELINES) {
            return NO_ROOM;
        }
        Pipe made = row.kind == LIST ? new Pipe(ROW, ANY, true) : new Pipe(LETTERS, WORD, false);
        made.a = value;
        made.value = value;
        made.many = row.size;
        return addPipe(made);
    }

    public int guard(int p, int sort, int note) {
        if (!stock.hasPipe(p)) {
            return NO_PIPELINE;
        }
        if (sort != OPENED && (sort != FAILING || note < 0 || note > 1000)) {
            return NO_SUCH;
        }
        if (stock.hasNoRoomAbove(stock.pipes[p].size)) {
            return NO_ROOM;
        }
        if (stock.pipes[p].spent) {
            return IS_SPENT;
        }
        Pipe made = new Pipe(sort, stock.pipes[p].kind, stock.pipes[p].restarts);
        made.standOn(p, stock.pipes[p]);
        made.a = note;
        return addPipe(made);
    }

    public int both(int p, int q, int sort, int f) {
        if (!stock.hasPipe(p) || !stock.hasPipe(q)) {
            return NO_PIPELINE;
        }
        if (sort < JOINED || sort > INTERLEAVED || sort == ZIPPED && !stock.hasFunction(f, 2)) {
            return NO_SUCH;
        }
        Pipe one = stock.pipes[p];
        Pipe two = stock.pipes[q];
        if (sort == ZIPPED && !(fits(stock.functions[f].asks, one.kind)
                && fits(stock.functions[f].asksSecond, two.kind))) {
            return NO_FIT;
        }
        if (stock.hasNoRoomAbove(one.size + two.size)) {
            return NO_ROOM;
        }
        if (one.spent || two.spent || p == q && !one.restarts) {
            return IS_SPENT;
        }
        int kind = sort == ZIPPED ? stock.functions[f].answers : sharedKind(one.kind, two.kind);
        Pipe made = new Pipe(sort, kind, one.restarts && two.restarts);
        made.standOn(p, one);
        made.standBesides(q, two);
        made.f = sort == ZIPPED ? f : 0;
        return addPipe(made);
    }

    public int stage(int p, int sort, int f, int a) {
        if (!stock.hasPipe(p)) {
            return NO_PIPELINE;
        }
        if (sort < KEPT || sort > CACHED) {
            return NO_SUCH;
        }
        Pipe below = stock.pipes[p];
        int s = sort - KEPT;
        int refusal = stock.refusalOfF(STAGE_F[s], f);
        if (refusal == 0) {
            refusal = stock.refusalOfA(STAGE_LEAST_A[s], STAGE_MOST_A[s], a);
        }
        if (refusal == 0) {
            refusal = stock.refusalOfKinds(STAGE_F[s], STAGE_ANSWER[s], below.kind, f, a);
        }
        if (refusal != 0) {
            return refusal;
        }
        if (stock.hasNoRoomAbove(below.size)) {
            return NO_ROOM;
        }
        return below.spent ? IS_SPENT : addPipe(stock.stageOn(p, sort, f, a));
    }

    public int run(int p, int end, int f, int a) {
        int refusal = refusalOfRun(p, end, f, a);
        if (refusal != 0) {
            return refusal;
        }
        perform(latest, p, end, f, a);
        spend(p);
        return latest.answer();
    }

    public int foretell(int p, int end, int f, int a) {
        int refusal = refusalOfRun(p, end, f, a);
        if (refusal != 0) {
            return refusal;
        }
        perform(foretold, p, end, f, a);
        return foretold.answer();
    }

    public int equal(int p, int q, int end, int f, int a) {
        int refusal = refusalOfRun(p, end, f, a);
        if (refusal == 0) {
            refusal = refusalOfRun(q, end, f, a);
        }
        if (refusal != 0) {
            return refusal;
        }
        perform(foretold, p, end, f, a);
        perform(foretoldNext, q, end, f, a);
        return foretold.endedAs(foretoldNext) ? 1 : 0;
    }

    public int kind(int n) {
        return latest.result.has(n) ? latest.result.kinds[n] : -1;
    }

    public int size(int n) {
        return latest.result.has(n) ? latest.result.sizes[n] : -1;
    }

    public int part(int n, int i) {
        return latest.result.numberOf(n, i);
    }

    public long told(int n) throws IllegalArgumentException {
        Result result = latest.result;
        if (!result.has(n) || result.kinds[n] != LONG && result.kinds[n] != WORD) {
            throw new IllegalArgumentException("neither a LONG nor a WORD");
        }
        return result.wholes[n];
    }

    public double measured(int n) throws IllegalArgumentException {
        Result result = latest.result;
        if (!result.has(n) || result.kinds[n] != REAL) {
            throw new IllegalArgumentException("no REAL");
        }
        return result.reals[n];
    }

    public int calls(int f) {
        return stock.hasFunction(f) ? latest.callsOf[f] : -1;
    }

    public int call(int k) {
        return latest.keeps(k) ? latest.called[k] : -1;
    }

    public long argument(int k, boolean second) throws IllegalArgumentException {
        if (!latest.keeps(k) || second && !latest.hadTwo[k]) {
            throw new IllegalArgumentException("no such argument");
        }
        return second ? latest.secondHash[k] : latest.firstHash[k];
    }

    public int given(int p) {
        return stock.hasPipe(p) ? latest.gaveOf[p] : -1;
    }

    public int failure(int what) {
        switch (what) {
            case 0:
                return latest.failure;
            case 1:
                return latest.failedAt;
            case 2:
                return latest.gaveBefore;
            case 3:
                return latest.closedCount;
            case 4:
                return latest.suppressedCount;
            default:
                return NO_SUCH;
        }
    }

    public int closed(int k, boolean suppressed) throws IllegalArgumentException {
        int count = suppressed ? latest.suppressedCount : latest.closedCount;
        if (k < 0 || k >= count) {
            throw new IllegalArgumentException("none was closed as that one");
        }
        return suppressed ? latest.suppressedNotes[k] : latest.closedNotes[k];
    }

    public int rewrite(int p) {
        if (!stock.hasPipe(p)) {
            return NO_PIPELINE;
        }
        rewriter.plan(p);
        if (rewriter.hasNoRoom()) {
            return NO_ROOM;
        }
        if (stock.pipes[p].spent) {
            return IS_SPENT;
        }
        for (int k = 0; k < RULES; k++) {
            rulesUsed[k] = rewriter.used[k];
        }
        return rewriter.merged == 0 ? p : addRewritten(p);
    }

    public int rule(int k) {
        return k < 0 || k >= RULES ? NO_SUCH : rulesUsed[k];
    }

    public int look(int p, int what) {
        if (!stock.hasPipe(p)) {
            return NO_PIPELINE;
        }
        Pipe pipe = stock.pipes[p];
        switch (what) {
            case 0:
                return pipe.sort;
            case 1:
                return pipe.below;
            case 2:
                return pipe.other;
            case 3:
                return pipe.f;
            case 4:
                return pipe.a;
            case 5:
                return pipe.size;
            case 6:
                return pipe.kind;
            case 7:
                return pipe.restarts ? 1 : 0;
            case 8:
                return pipe.spent ? 1 : 0;
            default:
                return NO_SUCH;
        }
    }

    public int shape(int f, int what) {
        if (!stock.hasFunction(f)) {
            return NO_SUCH;
        }
        Fun fun = stock.functions[f];
        switch (what) {
            case 0:
                return fun.arity;
            case 1:
                return fun.asks;
            case 2:
                return fun.arity == 2 ? fun.asksSecond : -1;
            case 3:
                return fun.answers;
            case 4:
                return fun.size;
            default:
                return NO_SUCH;
        }
    }

    public int undo() {
        if (buildings == 0) {
            return -1;
        }
        buildings--;
        int what = built[buildings];
        if (what == BUILT_VALUE) {
            stock.valueCount--;
        }
        if (what == BUILT_COMPARATOR) {
            stock.comparatorCount--;
        }
        stock.functionCount -= functionsBuilt[buildings];
        stock.pipeCount -= pipesBuilt[buildings];
        restore(spentByIt[buildings]);
        restore(alsoSpentByIt[buildings]);
        return what;
    }

    public int count(int what) {
        switch (what) {
            case 0:
                return stock.valueCount;
            case 1:
                return stock.functionCount;
            case 2:
                return stock.comparatorCount;
            case 3:
                return stock.pipeCount;
            case 4:
                return latest.steps;
            case 5:
                return latest.calls;
            case 6:
                return stepsOfAll;
            case 7:
                return buildings;
            default:
                return NO_SUCH;
        }
    }

    private int addValue(Val made) {
        int number = stock.valueCount;
        stock.values[number] = made;
        stock.valueCount++;
        noteBuilding(BUILT_VALUE, 0, 0, -1, -1);
        return number;
    }

    private boolean hasNoRoomFor(Fun made) {
        return stock.functionCount >= MOST_FUNCTIONS || made.size > MOST_FUNCTION_SIZE;
    }

    private int addFunction(Fun made) {
        int number = enterFunction(made);
        noteBuilding(BUILT_FUNCTION, 0, 1, -1, -1);
        return number;
    }

    /** The number may have been another's in the latest RUN, so that what it tells of it goes. */
    private int enterFunction(Fun made) {
        int number = stock.functionCount;
        stock.functions[number] = made;
        stock.functionCount++;
        latest.callsOf[number] = 0;
        return number;
    }

    private int addPipe(Pipe made) {
        int number = enterPipe(made);
        int one = made.below >= 0 && spend(made.below) ? made.below : -1;
        int two = made.other >= 0 && spend(made.other) ? made.other : -1;
        noteBuilding(BUILT_PIPELINE, 1, 0, one, two);
        return number;
    }

    private int enterPipe(Pipe made) {
        int number = stock.pipeCount;
        stock.pipes[number] = made;
        stock.pipeCount++;
        latest.gaveOf[number] = 0;
        return number;
    }

    private int addRewritten(int p) {
        for (int i = 0; i < rewriter.madeCount; i++) {
            enterFunction(rewriter.made[i]);
        }
        int top = rewriter.base;
        for (int i = 0; i < rewriter.length; i++) {
            int sort = rewriter.sorts[i];
            spend(top);
            top = enterPipe(stock.stageOn(top, sort, rewriter.fs[i], rewriter.amounts[i]));
        }
        int spentOne = spend(p) ? p : -1;
        noteBuilding(BUILT_REWRITE, rewriter.length, rewriter.madeCount, spentOne, -1);
        return top;
    }

    private void noteBuilding(int what, int pipes, int functions, int spentOne, int spentTwo) {
        built[buildings] = what;
        pipesBuilt[buildings] = pipes;
        functionsBuilt[buildings] = functions;
        spentByIt[buildings] = spentOne;
        alsoSpentByIt[buildings] = spentTwo;
        buildings++;
    }

    /** Whether p became SPENT by this. */
    private boolean spend(int p) {
        Pipe pipe = stock.pipes[p];
        if (pipe.restarts || pipe.spent) {
            return false;
        }
        pipe.spent = true;
        return true;
    }

    private void restore(int p) {
        if (stock.hasPipe(p)) {
            stock.pipes[p].spent = false;
        }
    }

    private int refusalOfRun(int p, int end, int f, int a) {
        if (!stock.hasPipe(p)) {
            return NO_PIPELINE;
        }
        if (end < 0 || end > LAST_END) {
            return NO_SUCH;
        }
        int refusal = stock.refusalOfF(END_F[end], f);
        if (refusal == 0) {
            refusal = stock.refusalOfA(END_LEAST_A[end], END_MOST_A[end], a);
        }
        if (refusal != 0) {
            return refusal;
        }
        int kind = stock.pipes[p].kind;
        if (!fits(END_ELEMENT[end], kind)) {
            return NO_FIT;
        }
        refusal = stock.refusalOfKinds(END_F[end], END_ANSWER[end], kind, f, a);
        if (refusal != 0) {
            return refusal;
        }
        if (stock.pipes[p].spent) {
            return IS_SPENT;
        }
        return stepsOfAll >= MOST_STEPS_OF_ALL ? ALL_TAKEN : 0;
    }

    private void perform(Tale tale, int p, int end, int f, int a) {
        tale.clear();
        caller.begin(tale);
        line.begin(tale, p);
        Val result = null;
        try {
            result = ender.conclude(end, f, a);
        } catch (IllegalStateException failed) {
            // the tale has the failure already
        }
        line.closeAll();
        if (result != null && tale.failure == 0) {
            tale.result.hold(result);
        }
        stepsOfAll += tale.steps;
    }

    private static boolean fits(int one, int two) {
        return one == two || one == ANY || two == ANY;
    }

    private static int sharedKind(int one, int two) {
        return one == two ? one : ANY;
    }

    private static boolean isFinite(double v) {
        return v >= -1.7976931348623157E308 && v <= 1.7976931348623157E308;
    }

    private static boolean isModest(double v) {
        return v >= -1000000000.0 && v <= 1000000000.0;
    }

    /** How many letters the digits have, or -1 if they are no WORD's. */
    private static int lettersIn(long digits) {
        if (digits < 0 || digits >= POWERS[MOST_LETTERS]) {
            return -1;
        }
        int length = 0;
        long rest = digits;
        while (rest > 0 && length < MOST_LETTERS) {
            if (rest % 27 == 0) {
                return -1;
            }
            rest /= 27;
            length++;
        }
        return length;
    }

    /** A VALUE. Those of a RUN are used again by the next one, so they can be made anew. */
    private static final class Val {
        int kind;
        /** How many parts or letters. */
        int size;
        int weight;
        int depth;
        /** A LONG, or the digits of a WORD. */
        long whole;
        double real;
        long hash;
        Val[] parts;

        Val beWhole(long v) {
            kind = LONG;
            size = 0;
            weight = 1;
            depth = 1;
            whole = v;
            hash = 31 * v + 1;
            return this;
        }

        Val beReal(double v) {
            kind = REAL;
            size = 0;
            weight = 1;
            depth = 1;
            real = v + 0.0;
            hash = 31 * (long) (8.0 * real) + 2;
            return this;
        }

        Val beWord(long digits, int letters) {
            kind = WORD;
            size = letters;
            weight = 1;
            depth = 1;
            whole = digits;
            hash = 3;
            for (int i = letters - 1; i >= 0; i--) {
                hash = 31 * hash + digits / POWERS[i] % 27;
            }
            return this;
        }

        /** Makes room for n parts; close() must follow when they are there. */
        Val seat(int n) {
            size = n;
            if (parts == null || parts.length < n) {
                parts = new Val[n];
            }
            return this;
        }

        Val close(int itsKind) {
            kind = itsKind;
            weight = 1;
            int deepest = 0;
            long so = itsKind == PAIR ? 0 : 5;
            for (int i = 0; i < size; i++) {
                Val v = parts[i];
                weight += v.weight;
                deepest = v.depth > deepest ? v.depth : deepest;
                so = 31 * so + v.hash;
            }
            depth = deepest + 1;
            hash = itsKind == PAIR ? 31 * so + 4 : so;
            return this;
        }

        boolean isTooLarge() {
            return size > MOST_ELEMENTS || weight > MOST_WEIGHT || depth > MOST_DEPTH;
        }

        /** The i-th letter from the front, a 1 to z 26. */
        long letterAt(int i) {
            return whole / POWERS[size - 1 - i] % 27;
        }

        static boolean isSame(Val x, Val y) {
            if (x == y) {
                return true;
            }
            if (x.hash != y.hash || x.kind != y.kind || x.size != y.size) {
                return false;
            }
            if (x.kind == REAL) {
                return x.real == y.real;
            }
            if (x.kind == LONG || x.kind == WORD) {
                return x.whole == y.whole;
            }
            for (int i = 0; i < x.size; i++) {
                if (!isSame(x.parts[i], y.parts[i])) {
                    return false;
                }
            }
            return true;
        }

        /** Below 0 if x is ahead of y in ORDER, above 0 if behind, 0 if they are SAME. */
        static int order(Val x, Val y) {
            if (x.kind != y.kind) {
                return x.kind < y.kind ? -1 : 1;
            }
            if (x.kind == REAL) {
                return x.real < y.real ? -1 : x.real > y.real ? 1 : 0;
            }
            if (x.kind == LONG) {
                return Long.compare(x.whole, y.whole);
            }
            if (x.kind == WORD) {
                // moved to the left end, so that a beginning is below what it begins
                return Long.compare(x.whole * POWERS[MOST_LETTERS - x.size],
                        y.whole * POWERS[MOST_LETTERS - y.size]);
            }
            for (int i = 0; i < x.size && i < y.size; i++) {
                int so = order(x.parts[i], y.parts[i]);
                if (so != 0) {
                    return so;
                }
            }
            return Integer.compare(x.size, y.size);
        }
    }

    /** A FUNCTION. */
    private static final class Fun {
        static final int OF_CODE = 0;
        static final int OF_BOTH = 1;
        static final int OF_BOUND_FIRST = 2;
        static final int OF_BOUND_SECOND = 3;
        static final int OF_EXCHANGED = 4;

        final int form;
        int code;
        /** The one that is called last of a BEHIND. */
        int outer;
        int inner;
        int value;
        int arity;
        int asks;
        int asksSecond;
        int answers;
        int size;

        private Fun(int form) {
            this.form = form;
        }

        static Fun ofCode(int code) {
            Fun made = new Fun(OF_CODE);
            made.code = code;
            made.arity = code < FIRST_OF_TWO ? 1 : 2;
            made.asks = ASKS[code];
            made.asksSecond = code < FIRST_OF_TWO ? ANY : ASKS_SECOND[code - FIRST_OF_TWO];
            made.answers = ANSWERS[code];
            made.size = 1;
            return made;
        }

        static Fun ofBoth(int f, Fun outer, int g, Fun inner) {
            Fun made = new Fun(OF_BOTH);
            made.outer = f;
            made.inner = g;
            made.arity = inner.arity;
            made.asks = inner.asks;
            made.asksSecond = inner.asksSecond;
            made.answers = outer.answers;
            made.size = 1 + outer.size + inner.size;
            return made;
        }

        static Fun ofBound(int f, Fun inner, int value, boolean second) {
            Fun made = new Fun(second ? OF_BOUND_SECOND : OF_BOUND_FIRST);
            made.inner = f;
            made.value = value;
            made.arity = 1;
            made.asks = second ? inner.asks : inner.asksSecond;
            made.asksSecond = ANY;
            made.answers = inner.answers;
            made.size = 1 + inner.size;
            return made;
        }

        static Fun ofExchanged(int f, Fun inner) {
            Fun made = new Fun(OF_EXCHANGED);
            made.inner = f;
            made.arity = 2;
            made.asks = inner.asksSecond;
            made.asksSecond = inner.asks;
            made.answers = inner.answers;
            made.size = 1 + inner.size;
            return made;
        }
    }

    /** A PIPELINE. */
    private static final class Pipe {
        final int sort;
        final int kind;
        final boolean restarts;
        int below = -1;
        int other = -1;
        int f;
        int a;
        int value;
        /** How many elements a source gives at most. */
        int many;
        long from;
        double start;
        double by;
        int size = 1;
        boolean spent;

        Pipe(int sort, int kind, boolean restarts) {
            this.sort = sort;
            this.kind = kind;
            this.restarts = restarts;
        }

        void standOn(int p, Pipe pipe) {
            below = p;
            size += pipe.size;
        }

        void standBesides(int q, Pipe pipe) {
            other = q;
            size += pipe.size;
        }
    }

    /** All that there is, by numbers. */
    private static final class Stock {
        final Val[] values = new Val[MOST_VALUES];
        final Fun[] functions = new Fun[MOST_FUNCTIONS];
        final Pipe[] pipes = new Pipe[MOST_PIPELINES];
        final int[] keyCount = new int[MOST_COMPARATORS];
        final int[] keyFunction = new int[MOST_COMPARATORS * MOST_KEYS];
        final boolean[] keyDown = new boolean[MOST_COMPARATORS * MOST_KEYS];
        int valueCount;
        int functionCount;
        int comparatorCount;
        int pipeCount;

        boolean hasValue(int n) {
            return n >= 0 && n < valueCount;
        }

        boolean hasFunction(int f) {
            return f >= 0 && f < functionCount;
        }

        boolean hasFunction(int f, int arity) {
            return hasFunction(f) && functions[f].arity == arity;
        }

        boolean hasComparator(int c) {
            return c >= 0 && c < comparatorCount;
        }

        boolean hasPipe(int p) {
            return p >= 0 && p < pipeCount;
        }

        boolean hasNoRoomAbove(int sizeBelow) {
            return pipeCount >= MOST_PIPELINES || sizeBelow + 1 > MOST_PIPELINE_SIZE;
        }

        void addKey(int c, int f, boolean down) {
            int at = c * MOST_KEYS + keyCount[c];
            keyFunction[at] = f;
            keyDown[at] = down;
            keyCount[c]++;
        }

        void addKeysOf(int c, int other) {
            for (int i = 0; i < keyCount[other]; i++) {
                int at = other * MOST_KEYS + i;
                addKey(c, keyFunction[at], keyDown[at]);
            }
        }

        /** How many KEYS; -1 as a COMPARATOR has none. */
        int keysOf(int c) {
            return c >= 0 && c < comparatorCount ? keyCount[c] : 0;
        }

        int refusalOfF(int wants, int f) {
            boolean right = wants == NOTHING
                    || wants == COMPARATOR && (f == -1 || hasComparator(f))
                    || wants == ONE && hasFunction(f, 1)
                    || wants == TWO && hasFunction(f, 2);
            return right ? 0 : NO_SUCH;
        }

        int refusalOfA(int least, int most, int a) {
            boolean right = most == UNUSED
                    || most == A_VALUE && hasValue(a)
                    || a >= least && a <= most;
            return right ? 0 : NO_SUCH;
        }

        /** f and a are as wanted here; of two arguments the first one goes with VALUE number a. */
        int refusalOfKinds(int wants, int answer, int element, int f, int a) {
            if (wants == COMPARATOR) {
                return keysFit(f, element) ? 0 : NO_FIT;
            }
            if (wants == ONE) {
                Fun fun = functions[f];
                return fits(fun.asks, element) && fits(fun.answers, answer) ? 0 : NO_FIT;
            }
            if (wants == TWO) {
                Fun fun = functions[f];
                return fits(fun.asksSecond, element) && fits(fun.asks, values[a].kind)
                        && fits(fun.asks, fun.answers) ? 0 : NO_FIT;
            }
            return 0;
        }

        private boolean keysFit(int c, int element) {
            for (int i = 0; i < keysOf(c); i++) {
                if (!fits(functions[keyFunction[c * MOST_KEYS + i]].asks, element)) {
                    return false;
                }
            }
            return true;
        }

        /** A stage that nothing refuses; f and a that it doesn't use are forgotten. */
        Pipe stageOn(int p, int sort, int f, int a) {
            Pipe below = pipes[p];
            int s = sort - KEPT;
            Pipe made = new Pipe(sort, kindOfStage(sort, f, a, below.kind), below.restarts);
            made.standOn(p, below);
            made.f = STAGE_F[s] == NOTHING ? 0 : f;
            made.a = STAGE_MOST_A[s] == UNUSED ? 0 : a;
            return made;
        }

        private int kindOfStage(int sort, int f, int a, int element) {
            switch (sort) {
                case MAPPED:
                case FOLDED:
                case RETRIED:
                    return functions[f].answers;
                case FLAT:
                    return ANY;
                case WINDOW:
                case CHUNK:
                case GROUPED:
                    return LIST;
                case BESIDE:
                    return PAIR;
                case RESCUED:
                    return sharedKind(element, values[a].kind);
                default:
                    return element;
            }
        }
    }

    /** A RESULT, its parts by their numbers. */
    private static final class Result {
        final int[] kinds = new int[MOST_WEIGHT];
        final int[] sizes = new int[MOST_WEIGHT];
        /** How many parts a part is, itself and all in it. */
        final int[] weights = new int[MOST_WEIGHT];
        final long[] wholes = new long[MOST_WEIGHT];
        final double[] reals = new double[MOST_WEIGHT];
        int count;

        void hold(Val v) {
            count = 0;
            lay(v);
        }

        private void lay(Val v) {
            if (count >= MOST_WEIGHT) {
                return;
            }
            kinds[count] = v.kind;
            sizes[count] = v.size;
            weights[count] = v.weight;
            wholes[count] = v.kind == LONG || v.kind == WORD ? v.whole : 0;
            reals[count] = v.kind == REAL ? v.real : 0.0;
            count++;
            if (v.kind == PAIR || v.kind == LIST) {
                for (int i = 0; i < v.size; i++) {
                    lay(v.parts[i]);
                }
            }
        }

        boolean has(int n) {
            return n >= 0 && n < count;
        }

        int numberOf(int n, int i) {
            if (!has(n) || kinds[n] != PAIR && kinds[n] != LIST || i < 0 || i >= sizes[n]) {
                return -1;
            }
            int number = n + 1;
            for (int k = 0; k < i && has(number); k++) {
                number += weights[number];
            }
            return number;
        }

        boolean isSameAs(Result other) {
            if (count != other.count) {
                return false;
            }
            for (int n = 0; n < count; n++) {
                if (kinds[n] != other.kinds[n] || sizes[n] != other.sizes[n]
                        || wholes[n] != other.wholes[n] || reals[n] != other.reals[n]) {
                    return false;
                }
            }
            return true;
        }
    }

    /** What a RUN tells. */
    private static final class Tale {
        int steps;
        int calls;
        int failure;
        int failedAt = -1;
        int gaveBefore;
        int closedCount;
        int suppressedCount;
        final int[] closedNotes = new int[MOST_PIPELINE_SIZE];
        final int[] suppressedNotes = new int[MOST_PIPELINE_SIZE];
        final int[] callsOf = new int[MOST_FUNCTIONS];
        final int[] gaveOf = new int[MOST_PIPELINES];
        final int[] called = new int[CALLS_KEPT];
        final long[] firstHash = new long[CALLS_KEPT];
        final long[] secondHash = new long[CALLS_KEPT];
        final boolean[] hadTwo = new boolean[CALLS_KEPT];
        final Result result = new Result();

        void clear() {
            steps = 0;
            calls = 0;
            closedCount = 0;
            suppressedCount = 0;
            result.count = 0;
            forgetFailure();
            for (int i = 0; i < MOST_FUNCTIONS; i++) {
                callsOf[i] = 0;
            }
            for (int i = 0; i < MOST_PIPELINES; i++) {
                gaveOf[i] = 0;
            }
        }

        void forgetFailure() {
            noteFailure(0, -1, 0);
        }

        void noteFailure(int number, int at, int gave) {
            failure = number;
            failedAt = at;
            gaveBefore = gave;
        }

        void noteCall(int f, boolean two, Val x, Val y) {
            if (calls < CALLS_KEPT) {
                called[calls] = f;
                hadTwo[calls] = two;
                firstHash[calls] = x.hash;
                secondHash[calls] = y.hash;
            }
            calls++;
            callsOf[f]++;
        }

        void noteClosing(int note, int at, int gave) {
            if (closedCount >= MOST_PIPELINE_SIZE) {
                return;
            }
            closedNotes[closedCount] = note;
            closedCount++;
            if (note >= 0) {
                return;
            }
            if (failure == 0) {
                noteFailure(BY_CLOSE, at, gave);
                return;
            }
            suppressedNotes[suppressedCount] = note;
            suppressedCount++;
        }

        boolean keeps(int k) {
            return k >= 0 && k < calls && k < CALLS_KEPT;
        }

        int answer() {
            return failure != 0 ? -100 - failure : result.kinds[0];
        }

        boolean endedAs(Tale other) {
            return failure == other.failure && result.isSameAs(other.result);
        }
    }

    /** Calls FUNCTIONS, makes VALUES, and takes STEPS. */
    private static final class Caller {
        private final Stock stock;
        private Tale tale;
        /** VALUES of this RUN alone; the next one uses them again. */
        private Val[] pool = new Val[1024];
        private int pooled;
        private final Val[] gathered = new Val[2 * MOST_ELEMENTS];

        Caller(Stock stock) {
            this.stock = stock;
        }

        void begin(Tale toldBy) {
            tale = toldBy;
            pooled = 0;
        }

        Val fresh() {
            if (pooled >= pool.length) {
                Val[] more = new Val[2 * pool.length];
                for (int i = 0; i < pool.length; i++) {
                    more[i] = pool[i];
                }
                pool = more;
            }
            if (pool[pooled] == null) {
                pool[pooled] = new Val();
            }
            pooled++;
            return pool[pooled - 1];
        }

        Val fresh(long v) {
            return fresh().beWhole(v);
        }

        private Val truth(boolean yes) {
            return fresh().beWhole(yes ? 1 : 0);
        }

        /** Always throws; it answers a VALUE so that a caller can return it. */
        Val fail(Place at, int failure) {
            tale.failure = failure;
            tale.failedAt = at.number;
            tale.gaveBefore = at.gave;
            throw new IllegalStateException("a RUN has failed");
        }

        /** Lets the failure that is noted go on. */
        Val raise() {
            throw new IllegalStateException("a RUN has failed");
        }

        /** Whether there were as many STEPS; if not, all are gone. */
        boolean pays(int many) {
            if (many > MOST_STEPS - tale.steps) {
                tale.steps = MOST_STEPS;
                return false;
            }
            tale.steps += many;
            return true;
        }

        Val listOf(Place at, int cost, Val[] from, int first, int many) {
            if (!pays(cost)) {
                return fail(at, BY_STEPS);
            }
            if (many > MOST_ELEMENTS) {
                return fail(at, BY_SIZE);
            }
            Val made = fresh().seat(many);
            for (int i = 0; i < many; i++) {
                made.parts[i] = from[first + i];
            }
            made.close(LIST);
            return made.isTooLarge() ? fail(at, BY_SIZE) : made;
        }

        Val pairOf(Place at, Val x, Val y) {
            Val made = fresh().seat(2);
            made.parts[0] = x;
            made.parts[1] = y;
            made.close(PAIR);
            return made.isTooLarge() ? fail(at, BY_SIZE) : made;
        }

        Val letterOf(Val word, int i) {
            return fresh().beWord(word.letterAt(i), 1);
        }

        Val joinedWord(Place at, Val x, Val y) {
            if (x.size + y.size > MOST_LETTERS) {
                return fail(at, BY_SIZE);
            }
            return fresh().beWord(x.whole * POWERS[y.size] + y.whole, x.size + y.size);
        }

        Val realOf(Place at, double v) {
            return isFinite(v) ? fresh().beReal(v) : fail(at, BY_RANGE);
        }

        /** Whether this answer of a FUNCTION says that it HOLDS. */
        boolean isYes(Place at, Val answer) {
            if (answer.kind != LONG) {
                fail(at, BY_KIND);
            }
            return answer.whole != 0;
        }

        /** y is looked at where f has two arguments alone: any VALUE will do else. */
        Val invoke(Place at, int f, Val x, Val y) {
            if (!pays(1)) {
                return fail(at, BY_STEPS);
            }
            Fun fun = stock.functions[f];
            boolean two = fun.arity == 2;
            tale.noteCall(f, two, x, y);
            if (!fits(fun.asks, x.kind) || two && !fits(fun.asksSecond, y.kind)) {
                return fail(at, BY_KIND);
            }
            return answerOf(at, f, x, y);
        }

        private Val answerOf(Place at, int f, Val x, Val y) {
            Fun fun = stock.functions[f];
            switch (fun.form) {
                case Fun.OF_BOTH:
                    Val between = invoke(at, fun.inner, x, y);
                    return invoke(at, fun.outer, between, between);
                case Fun.OF_BOUND_FIRST:
                    return invoke(at, fun.inner, stock.values[fun.value], x);
                case Fun.OF_BOUND_SECOND:
                    return invoke(at, fun.inner, x, stock.values[fun.value]);
                case Fun.OF_EXCHANGED:
                    return invoke(at, fun.inner, y, x);
                default:
                    break;
            }
            int code = fun.code;
            if (code == 27) {
                return tale.callsOf[f] % 3 == 0 ? x : fail(at, BY_FLAKY);
            }
            if (fun.arity == 2) {
                return code <= 37 ? ofLongs(at, code, x.whole, y.whole)
                        : code <= 41 ? ofReals(at, code, x.real, y.real)
                        : ofTwo(at, code, x, y);
            }
            return code <= 7 ? ofLong(code, x.whole)
                    : code <= 10 ? ofReal(at, code, x.real)
                    : code <= 14 ? ofWord(at, code, x)
                    : code >= 18 && code <= 22 ? ofList(at, code, x)
                    : ofOne(at, code, x);
        }

        private Val ofLong(int code, long v) {
            switch (code) {
                case 0:
                    return fresh(-v);
                case 1:
                    return fresh(v < 0 ? -v : v);
                case 2:
                    return fresh(v * v);
                case 3:
                    return fresh(v / 2);
                case 4:
                    return fresh(Long.bitCount(v));
                case 5:
                    return truth(v % 2 == 0);
                case 6:
                    return truth(v > 0);
                default:
                    return fresh().beReal((double) v);
            }
        }

        private Val ofReal(Place at, int code, double v) {
            if (code == 9) {
                return fresh().beReal(-v);
            }
            if (code == 10) {
                return fresh().beReal(v / 2.0);
            }
            boolean isLong = v >= -9223372036854775808.0 && v < 9223372036854775808.0;
            return isLong ? fresh((long) v) : fail(at, BY_RANGE);
        }

        private Val ofWord(Place at, int code, Val x) {
            if (code == 11) {
                return fresh(x.size);
            }
            if (code == 12) {
                long turned = 0;
                for (int i = x.size - 1; i >= 0; i--) {
                    turned = 27 * turned + x.letterAt(i);
                }
                return fresh().beWord(turned, x.size);
            }
            if (code == 14) {
                return x.size > 0 ? letterOf(x, 0) : fail(at, BY_BOUNDS);
            }
            for (int i = 0; i < x.size; i++) {
                gathered[i] = letterOf(x, i);
            }
            return listOf(at, x.size, gathered, 0, x.size);
        }

        private Val ofList(Place at, int code, Val x) {
            if (code == 18) {
                return fresh(x.size);
            }
            if (code == 22) {
                return sumOf(at, x);
            }
            if (code == 21) {
                for (int i = 0; i < x.size; i++) {
                    gathered[i] = x.parts[x.size - 1 - i];
                }
                return listOf(at, x.size, gathered, 0, x.size);
            }
            if (x.size == 0) {
                return fail(at, BY_BOUNDS);
            }
            return code == 19 ? x.parts[0] : listOf(at, 0, x.parts, 1, x.size - 1);
        }

        private Val sumOf(Place at, Val x) {
            long sum = 0;
            for (int i = 0; i < x.size; i++) {
                if (x.parts[i].kind != LONG) {
                    return fail(at, BY_KIND);
                }
                sum += x.parts[i].whole;
            }
            return fresh().beWhole(sum);
        }

        private Val ofOne(Place at, int code, Val x) {
            switch (code) {
                case 15:
                    return x.parts[0];
                case 16:
                    return x.parts[1];
                case 17:
                    return pairOf(at, x.parts[1], x.parts[0]);
                case 23:
                    gathered[0] = x;
                    return listOf(at, 1, gathered, 0, 1);
                case 24:
                    return fresh(x.kind);
                case 25:
                    return fresh(x.hash);
                case 26:
                    return pairOf(at, x, x);
                default:
                    return fresh(x.weight);
            }
        }

        private Val ofLongs(Place at, int code, long x, long y) {
            switch (code) {
                case 30:
                    return fresh(x + y);
                case 31:
                    return fresh(x - y);
                case 32:
                    return fresh(x * y);
                case 33:
                    return y == 0 ? fail(at, BY_ZERO) : fresh(x / y);
                case 34:
                    return y == 0 ? fail(at, BY_ZERO) : fresh(x % y);
                case 35:
                    return truth(x < y);
                case 36:
                    return fresh(x < y ? x : y);
                default:
                    return fresh(x > y ? x : y);
            }
        }

        private Val ofReals(Place at, int code, double x, double y) {
            switch (code) {
                case 38:
                    return realOf(at, x + y);
                case 39:
                    return realOf(at, x * y);
                case 40:
                    return y == 0.0 ? fail(at, BY_ZERO) : realOf(at, x / y);
                default:
                    return truth(x < y);
            }
        }

        private Val ofTwo(Place at, int code, Val x, Val y) {
            switch (code) {
                case 42:
                    return joinedWord(at, x, y);
                case 43:
                    return truth(Val.isSame(x, y));
                case 44:
                    return truth(Val.order(x, y) < 0);
                case 45:
                    return pairOf(at, x, y);
                case 46:
                    gathered[0] = x;
                    gatherParts(1, y);
                    return listOf(at, 1, gathered, 0, 1 + y.size);
                case 47:
                    gatherParts(0, x);
                    gatherParts(x.size, y);
                    return listOf(at, x.size, gathered, 0, x.size + y.size);
                case 48:
                    boolean has = y.whole >= 0 && y.whole < x.size;
                    return has ? x.parts[(int) y.whole] : fail(at, BY_BOUNDS);
                case 49:
                    return x;
                default:
                    return y;
            }
        }

        private void gatherParts(int from, Val list) {
            for (int i = 0; i < list.size; i++) {
                gathered[from + i] = list.parts[i];
            }
        }
    }

    /** A PIPELINE at a place where it stands in a RUN; the end's own has the number -1. */
    private static final class Place {
        int number;
        Pipe pipe;
        Place below;
        Place other;
        int gave;
        boolean ended;
        boolean started;
        /** How many of what it has at hand are given. */
        int done;
        Val held;
        Val mark;
        long sum;
        Val[] items = new Val[16];
        int count;
        /** What the KEYS gave of the items, side by side. */
        Val[] keys = new Val[0];

        void begin(int itsNumber, Pipe itsPipe) {
            number = itsNumber;
            pipe = itsPipe;
            below = null;
            other = null;
            gave = 0;
            ended = false;
            started = false;
            done = 0;
            held = null;
            mark = null;
            sum = 0;
            count = 0;
        }

        void put(Val v) {
            if (count >= items.length) {
                items = grown(items, 2 * items.length);
            }
            items[count] = v;
            count++;
        }

        void putKey(int at, Val v) {
            if (at >= keys.length) {
                keys = grown(keys, 2 * at + 16);
            }
            keys[at] = v;
        }

        private static Val[] grown(Val[] row, int length) {
            Val[] more = new Val[length];
            for (int i = 0; i < row.length; i++) {
                more[i] = row[i];
            }
            return more;
        }

        /** The next one of the items, as they stand. */
        Val nextItem() {
            if (done >= count) {
                return null;
            }
            done++;
            return items[done - 1];
        }

        boolean hasItem(Val v) {
            for (int i = 0; i < count; i++) {
                if (Val.isSame(items[i], v)) {
                    return true;
                }
            }
            return false;
        }
    }

    /** The PIPELINES of a RUN at their places; each is asked for its next element. */
    private static final class Line {
        private final Stock stock;
        private final Caller caller;
        private Tale tale;
        private final ArrayList<Place> places = new ArrayList<Place>();
        private int placed;
        private final ArrayList<Place> opened = new ArrayList<Place>();
        final Place end = new Place();
        /** For sorting: the items' numbers, in order, and two rows to move things by. */
        private int[] ranks = new int[16];
        private int[] spareRanks = new int[16];
        private Val[] spareItems = new Val[16];

        Line(Stock stock, Caller caller) {
            this.stock = stock;
            this.caller = caller;
        }

        void begin(Tale toldBy, int p) {
            tale = toldBy;
            placed = 0;
            opened.clear();
            end.begin(-1, null);
            end.below = placeOf(p);
        }

        private Place placeOf(int p) {
            if (placed >= places.size()) {
                places.add(new Place());
            }
            Place place = places.get(placed);
            placed++;
            Pipe pipe = stock.pipes[p];
            place.begin(p, pipe);
            if (pipe.below >= 0) {
                place.below = placeOf(pipe.below);
            }
            if (pipe.other >= 0) {
                place.other = placeOf(pipe.other);
            }
            return place;
        }

        void closeAll() {
            for (int i = opened.size() - 1; i >= 0; i--) {
                Place place = opened.get(i);
                tale.noteClosing(place.pipe.a, place.number, place.gave);
            }
        }

        /** The next element, or null if it has ENDED. */
        Val ask(Place at) {
            if (at == null || at.ended) {
                return null;
            }
            Val v = at.pipe.sort < KEPT ? nextOfSource(at) : nextOfStage(at);
            if (v == null) {
                at.ended = true;
                return null;
            }
            at.gave++;
            tale.gaveOf[at.number]++;
            return v;
        }

        private Val nextOfSource(Place at) {
            Pipe pipe = at.pipe;
            switch (pipe.sort) {
                case OPENED:
                    return nextOpened(at);
                case FAILING:
                    return at.gave >= pipe.a ? caller.fail(at, BY_SOURCE) : ask(at.below);
                case JOINED:
                    Val first = ask(at.below);
                    return first != null ? first : ask(at.other);
                case ZIPPED:
                    return nextZipped(at);
                case INTERLEAVED:
                    return ask(at.gave % 2 == 0 ? at.below : at.other);
                default:
                    break;
            }
            if (at.gave >= pipe.many) {
                return null;
            }
            Val state = at.held == null ? stock.values[pipe.value] : at.held;
            boolean calls = pipe.sort == UNFOLD || pipe.sort == ITERATE && at.gave > 0;
            Val v = nextMade(at, calls ? caller.invoke(at, pipe.f, state, state) : state);
            return caller.pays(1) ? v : caller.fail(at, BY_STEPS);
        }

        /** The state is what f gave, where f was called. */
        private Val nextMade(Place at, Val state) {
            Pipe pipe = at.pipe;
            switch (pipe.sort) {
                case RANGE:
                    return caller.fresh(pipe.from + at.gave);
                case ITERATE:
                    at.held = state;
                    return state;
                case UNFOLD:
                    if (state.kind != PAIR) {
                        return caller.fail(at, BY_KIND);
                    }
                    at.held = state.parts[1];
                    return state.parts[0];
                case STEPS:
                    return caller.fresh().beReal(pipe.start + at.gave * pipe.by);
                case ROW:
                    return state.parts[at.gave];
                default:
                    return caller.letterOf(state, at.gave);
            }
        }

        private Val nextOpened(Place at) {
            if (!at.started) {
                at.started = true;
                opened.add(at);
            }
            return ask(at.below);
        }

        private Val nextZipped(Place at) {
            Val x = ask(at.below);
            Val y = x == null ? null : ask(at.other);
            return y == null ? null : caller.invoke(at, at.pipe.f, x, y);
        }

        private Val nextOfStage(Place at) {
            switch (at.pipe.sort) {
                case KEPT:
                    return nextKept(at);
                case MAPPED:
                    return nextMapped(at);
                case FLAT:
                    return nextFlat(at);
                case PEEKED:
                    return nextPeeked(at);
                case SKIPPED:
                    return nextSkipped(at);
                case TAKEN:
                    return at.gave >= at.pipe.a ? null : ask(at.below);
                case WHILE:
                    return nextWhile(at);
                case FROM:
                    return nextFrom(at);
                case DIFFERENT:
                    return nextDifferent(at);
                case SORTED:
                    return nextSorted(at);
                case REVERSED:
                    return nextReversed(at);
                case WINDOW:
                    return nextWindow(at);
                case CHUNK:
                    return nextChunk(at);
                case BESIDE:
                    return nextBeside(at);
                case FOLDED:
                    return nextFolded(at);
                case GROUPED:
                    return nextGrouped(at);
                case RESCUED:
                    return nextRescued(at);
                case RETRIED:
                    return nextRetried(at);
                case LIMITED:
                    return nextLimited(at);
                default:
                    return nextCached(at);
            }
        }

        private Val nextKept(Place at) {
            for (int i = 0; i < MANY; i++) {
                Val v = ask(at.below);
                if (v == null || caller.isYes(at, caller.invoke(at, at.pipe.f, v, v))) {
                    return v;
                }
            }
            return null;
        }

        private Val nextMapped(Place at) {
            Val v = ask(at.below);
            return v == null ? null : caller.invoke(at, at.pipe.f, v, v);
        }

        private Val nextFlat(Place at) {
            for (int i = 0; i < MANY; i++) {
                if (at.held != null && at.done < at.held.size) {
                    at.done++;
                    return at.held.parts[at.done - 1];
                }
                Val v = ask(at.below);
                if (v == null) {
                    return null;
                }
                Val row = caller.invoke(at, at.pipe.f, v, v);
                if (row.kind != LIST) {
                    return caller.fail(at, BY_KIND);
                }
                at.held = row;
                at.done = 0;
            }
            return null;
        }

        private Val nextPeeked(Place at) {
            Val v = ask(at.below);
            if (v != null) {
                caller.invoke(at, at.pipe.f, v, v);
            }
            return v;
        }

        private Val nextSkipped(Place at) {
            if (!at.started) {
                at.started = true;
                for (int i = 0; i < at.pipe.a; i++) {
                    if (ask(at.below) == null) {
                        return null;
                    }
                }
            }
            return ask(at.below);
        }

        private Val nextWhile(Place at) {
            Val v = ask(at.below);
            if (v == null) {
                return null;
            }
            return caller.isYes(at, caller.invoke(at, at.pipe.f, v, v)) ? v : null;
        }

        private Val nextFrom(Place at) {
            for (int i = 0; i < MANY; i++) {
                Val v = ask(at.below);
                if (v == null || at.started) {
                    return v;
                }
                if (!caller.isYes(at, caller.invoke(at, at.pipe.f, v, v))) {
                    at.started = true;
                    return v;
                }
            }
            return null;
        }

        private Val nextDifferent(Place at) {
            for (int i = 0; i < MANY; i++) {
                Val v = ask(at.below);
                if (v == null) {
                    return null;
                }
                if (!at.hasItem(v)) {
                    at.put(v);
                    return v;
                }
            }
            return null;
        }

        private Val nextSorted(Place at) {
            if (!at.started) {
                at.started = true;
                gather(at, at.pipe.f);
                sort(at, at.pipe.f, false);
            }
            return at.nextItem();
        }

        private Val nextReversed(Place at) {
            if (!at.started) {
                at.started = true;
                gather(at, -1);
            }
            at.done++;
            return at.done <= at.count ? at.items[at.count - at.done] : null;
        }

        private Val nextCached(Place at) {
            if (!at.started) {
                at.started = true;
                gather(at, -1);
            }
            return at.nextItem();
        }

        private Val nextWindow(Place at) {
            int wide = at.pipe.a;
            if (at.count == wide) {
                for (int i = 1; i < wide; i++) {
                    at.items[i - 1] = at.items[i];
                }
                at.count = wide - 1;
            }
            return fill(at, wide) ? caller.listOf(at, wide, at.items, 0, wide) : null;
        }

        private Val nextChunk(Place at) {
            at.count = 0;
            fill(at, at.pipe.a);
            return at.count == 0 ? null : caller.listOf(at, at.count, at.items, 0, at.count);
        }

        /** Whether as many could be had. */
        private boolean fill(Place at, int many) {
            for (int i = at.count; i < many; i++) {
                Val v = ask(at.below);
                if (v == null) {
                    return false;
                }
                at.put(v);
            }
            return true;
        }

        private Val nextBeside(Place at) {
            if (!at.started) {
                at.started = true;
                at.held = ask(at.below);
            }
            Val v = at.held == null ? null : ask(at.below);
            if (v == null) {
                return null;
            }
            Val both = caller.pairOf(at, at.held, v);
            at.held = v;
            return both;
        }

        private Val nextFolded(Place at) {
            Val v = ask(at.below);
            if (v == null) {
                return null;
            }
            Val before = at.held == null ? stock.values[at.pipe.a] : at.held;
            at.held = caller.invoke(at, at.pipe.f, before, v);
            return at.held;
        }

        /** The first one of the next group is held, with its mark. */
        private Val nextGrouped(Place at) {
            if (!at.started) {
                at.started = true;
                holdNext(at);
            }
            if (at.held == null) {
                return null;
            }
            at.count = 0;
            at.put(at.held);
            Val mark = at.mark;
            for (int i = 0; i < MANY; i++) {
                holdNext(at);
                if (at.held == null || !Val.isSame(at.mark, mark)) {
                    break;
                }
                if (at.count >= MOST_ELEMENTS) {
                    return caller.fail(at, BY_SIZE);
                }
                at.put(at.held);
            }
            return caller.listOf(at, at.count, at.items, 0, at.count);
        }

        private void holdNext(Place at) {
            Val v = ask(at.below);
            at.held = v;
            at.mark = v == null ? null : caller.invoke(at, at.pipe.f, v, v);
        }

        private Val nextRescued(Place at) {
            if (at.started) {
                return null;
            }
            if (couldHold(at, null)) {
                return at.held;
            }
            if (tale.failure == BY_STEPS) {
                return caller.raise();
            }
            tale.forgetFailure();
            at.started = true;
            return stock.values[at.pipe.a];
        }

        private Val nextRetried(Place at) {
            Val v = ask(at.below);
            if (v == null) {
                return null;
            }
            for (int i = 0; i < at.pipe.a; i++) {
                if (couldHold(at, v)) {
                    return at.held;
                }
                if (tale.failure == BY_STEPS) {
                    return caller.raise();
                }
                tale.forgetFailure();
            }
            return caller.invoke(at, at.pipe.f, v, v);
        }

        /** Whether it could hold what f gives of v, or the next one from below if v is null. */
        private boolean couldHold(Place at, Val v) {
            try {
                at.held = v == null ? ask(at.below) : caller.invoke(at, at.pipe.f, v, v);
                return true;
            } catch (IllegalStateException failed) {
                return false;
            }
        }

        private Val nextLimited(Place at) {
            Val v = ask(at.below);
            if (v == null) {
                return null;
            }
            at.sum += v.weight;
            return at.sum > at.pipe.a ? caller.fail(at, BY_SIZE) : v;
        }

        /** Asks for all, and calls the KEYS of a COMPARATOR for each as it comes. */
        void gather(Place at, int comparator) {
            int wide = stock.keysOf(comparator);
            for (int i = 0; i < MANY; i++) {
                Val v = ask(at.below);
                if (v == null) {
                    return;
                }
                for (int k = 0; k < wide; k++) {
                    int f = stock.keyFunction[comparator * MOST_KEYS + k];
                    at.putKey(at.count * wide + k, caller.invoke(at, f, v, v));
                }
                at.put(v);
            }
        }

        /** Below 0 if item i is ahead of item j, 0 if they are alike. */
        int compare(Place at, int comparator, int i, int j) {
            int wide = stock.keysOf(comparator);
            if (wide == 0) {
                return Val.order(at.items[i], at.items[j]);
            }
            for (int k = 0; k < wide; k++) {
                int so = Val.order(at.keys[i * wide + k], at.keys[j * wide + k]);
                if (so != 0) {
                    return stock.keyDown[comparator * MOST_KEYS + k] ? -so : so;
                }
            }
            return 0;
        }

        /** Leaves those that are alike as they came, turned (the greatest first) or not. */
        void sort(Place at, int comparator, boolean turned) {
            makeSortingRoom(at.count);
            for (int i = 0; i < at.count; i++) {
                ranks[i] = i;
            }
            for (int wide = 1; wide < at.count; wide *= 2) {
                for (int from = 0; from < at.count; from += 2 * wide) {
                    merge(at, comparator, turned, from, wide);
                }
                int[] merged = spareRanks;
                spareRanks = ranks;
                ranks = merged;
            }
            for (int i = 0; i < at.count; i++) {
                spareItems[i] = at.items[ranks[i]];
            }
            for (int i = 0; i < at.count; i++) {
                at.items[i] = spareItems[i];
            }
        }

        private void makeSortingRoom(int count) {
            if (ranks.length < count) {
                ranks = new int[2 * count];
                spareRanks = new int[2 * count];
                spareItems = new Val[2 * count];
            }
        }

        private void merge(Place at, int comparator, boolean turned, int from, int wide) {
            int middle = from + wide < at.count ? from + wide : at.count;
            int stop = middle + wide < at.count ? middle + wide : at.count;
            int left = from;
            int right = middle;
            for (int to = from; to < stop; to++) {
                boolean takesRight = left >= middle;
                if (left < middle && right < stop) {
                    int so = compare(at, comparator, ranks[left], ranks[right]);
                    takesRight = turned ? so < 0 : so > 0;
                }
                spareRanks[to] = takesRight ? ranks[right] : ranks[left];
                right += takesRight ? 1 : 0;
                left += takesRight ? 0 : 1;
            }
        }
    }

    /** The ENDS: each takes the elements as they come, then tells the RESULT. */
    private static final class Ender {
        private final Stock stock;
        private final Caller caller;
        private final Line line;
        private final Place end;
        private long many;
        private long sum;
        private long least;
        private long greatest;
        private double total;
        /** The VALUE that is the RESULT so far, or that has settled it. */
        private Val so;
        /** Of ENDS 14, 15: the group of each element; of each group how many, and what f gave. */
        private final int[] groupOf = new int[MOST_STEPS];
        private final int[] groupSize = new int[MOST_ELEMENTS];
        private final Val[] groupMark = new Val[MOST_ELEMENTS];
        private int groups;
        private final Val[] gathered = new Val[MOST_ELEMENTS];
        private final Val[] pairs = new Val[MOST_ELEMENTS];

        Ender(Stock stock, Caller caller, Line line) {
            this.stock = stock;
            this.caller = caller;
            this.line = line;
            this.end = line.end;
        }

        Val conclude(int sort, int f, int a) {
            begin(sort, a);
            int wants = END_F[sort];
            if (wants == COMPARATOR) {
                line.gather(end, f);
                return resultByOrder(sort, f, a);
            }
            for (int i = 0; i < MANY; i++) {
                Val v = line.ask(end.below);
                if (v == null) {
                    break;
                }
                Val answer = wants == NOTHING ? v : caller.invoke(end, f, wants == TWO ? so : v, v);
                if (takes(sort, a, v, answer)) {
                    break;
                }
            }
            return resultOf(sort);
        }

        private void begin(int sort, int a) {
            many = 0;
            sum = 0;
            least = 0;
            greatest = 0;
            total = 0.0;
            groups = 0;
            groupSize[0] = 0;
            groupSize[1] = 0;
            so = sort == 9 ? stock.values[a] : sort == 16 ? caller.fresh().beWord(0, 0) : null;
        }

        /** Whether no further one is needed behind v, of which f gave the answer. */
        private boolean takes(int sort, int a, Val v, Val answer) {
            if (END_ELEMENT[sort] != ANY && END_ELEMENT[sort] != v.kind) {
                caller.fail(end, BY_KIND);
            }
            many++;
            switch (sort) {
                case 1:
                case 17:
                    takeLong(v.whole);
                    return false;
                case 2:
                    takeReal(v.real);
                    return false;
                case 5:
                    so = v;
                    return true;
                case 6:
                case 8:
                    so = caller.isYes(end, answer) ? v : null;
                    return so != null;
                case 7:
                    so = caller.isYes(end, answer) ? null : v;
                    return so != null;
                case 9:
                    so = answer;
                    return false;
                case 10:
                case 13:
                    takeItem(v, sort == 13);
                    return false;
                case 11:
                    so = many > a ? v : null;
                    return so != null;
                case 14:
                    takeInto(groupFor(answer), v);
                    return false;
                case 15:
                    takeInto(caller.isYes(end, answer) ? 0 : 1, v);
                    return false;
                case 16:
                    so = caller.joinedWord(end, so, v);
                    return false;
                case 19:
                    so = v;
                    return false;
                default:
                    return false;
            }
        }

        private Val resultOf(int sort) {
            switch (sort) {
                case 1:
                    return caller.fresh(sum);
                case 2:
                    return caller.fresh().beReal(total);
                case 6:
                    return caller.fresh(so != null ? 1 : 0);
                case 7:
                case 8:
                    return caller.fresh(so != null ? 0 : 1);
                case 5:
                case 11:
                case 19:
                    return so != null ? so : caller.fail(end, BY_NONE);
                case 9:
                case 16:
                    return so;
                case 10:
                case 13:
                    return caller.listOf(end, end.count, end.items, 0, end.count);
                case 14:
                    return listOfGroups();
                case 15:
                    Val those = listOfGroup(0);
                    return caller.pairOf(end, those, listOfGroup(1));
                case 17:
                    return summary();
                default:
                    return caller.fresh(many);
            }
        }

        private void takeLong(long v) {
            least = many == 1 || v < least ? v : least;
            greatest = many == 1 || v > greatest ? v : greatest;
            sum += v;
        }

        private void takeReal(double v) {
            total += v;
            if (!isFinite(total)) {
                caller.fail(end, BY_RANGE);
            }
        }

        private void takeItem(Val v, boolean different) {
            if (different && end.hasItem(v)) {
                return;
            }
            if (end.count >= MOST_ELEMENTS) {
                caller.fail(end, BY_SIZE);
            }
            end.put(v);
        }

        /** The number of the group with this mark, a new one if there is none. */
        private int groupFor(Val mark) {
            for (int g = 0; g < groups; g++) {
                if (Val.isSame(groupMark[g], mark)) {
                    return g;
                }
            }
            if (groups >= MOST_ELEMENTS) {
                caller.fail(end, BY_SIZE);
            }
            groupMark[groups] = mark;
            groupSize[groups] = 0;
            groups++;
            return groups - 1;
        }

        private void takeInto(int group, Val v) {
            // each element has cost a CALL, so there are never more of them than STEPS
            if (groupSize[group] >= MOST_ELEMENTS || end.count >= MOST_STEPS) {
                caller.fail(end, BY_SIZE);
            }
            groupSize[group]++;
            groupOf[end.count] = group;
            end.put(v);
        }

        private Val listOfGroup(int group) {
            int found = 0;
            for (int i = 0; i < end.count; i++) {
                if (groupOf[i] == group && found < MOST_ELEMENTS) {
                    gathered[found] = end.items[i];
                    found++;
                }
            }
            return caller.listOf(end, found, gathered, 0, found);
        }

        private Val listOfGroups() {
            for (int g = 0; g < groups; g++) {
                pairs[g] = caller.pairOf(end, groupMark[g], listOfGroup(g));
            }
            return caller.listOf(end, groups, pairs, 0, groups);
        }

        private Val summary() {
            gathered[0] = caller.fresh(many);
            gathered[1] = caller.fresh(sum);
            gathered[2] = caller.fresh(least);
            gathered[3] = caller.fresh(greatest);
            int toldOf = many == 0 ? 2 : 4;
            return caller.listOf(end, toldOf, gathered, 0, toldOf);
        }

        private Val resultByOrder(int sort, int f, int a) {
            if (sort == 18) {
                line.sort(end, f, true);
                int first = a < end.count ? a : end.count;
                return caller.listOf(end, first, end.items, 0, first);
            }
            if (end.count == 0) {
                return caller.fail(end, BY_NONE);
            }
            int best = 0;
            for (int i = 1; i < end.count; i++) {
                int byOrder = line.compare(end, f, i, best);
                if (sort == 4 ? byOrder > 0 : byOrder < 0) {
                    best = i;
                }
            }
            return end.items[best];
        }
    }

    /** Plans what rewrite() would make, and changes nothing. */
    private static final class Rewriter {
        private final Stock stock;
        /** The stages, from below on. */
        final int[] sorts = new int[MOST_PIPELINE_SIZE];
        final int[] fs = new int[MOST_PIPELINE_SIZE];
        final int[] amounts = new int[MOST_PIPELINE_SIZE];
        int length;
        /** The one below that is no stage. */
        int base;
        /** New FUNCTIONS, numbered behind those that there are. */
        final Fun[] made = new Fun[MOST_PIPELINE_SIZE];
        int madeCount;
        final int[] used = new int[RULES];
        int merged;

        Rewriter(Stock stock) {
            this.stock = stock;
        }

        void plan(int p) {
            readStages(p);
            madeCount = 0;
            merged = 0;
            for (int k = 0; k < RULES; k++) {
                used[k] = 0;
            }
            for (int i = 0; i < MOST_PIPELINE_SIZE; i++) {
                if (!mergeFirst()) {
                    return;
                }
                merged++;
            }
        }

        boolean hasNoRoom() {
            return merged > 0 && (stock.functionCount + madeCount > MOST_FUNCTIONS
                    || stock.pipeCount + length > MOST_PIPELINES);
        }

        private void readStages(int p) {
            length = 0;
            base = p;
            while (length < MOST_PIPELINE_SIZE && stock.pipes[base].sort >= KEPT) {
                length++;
                base = stock.pipes[base].below;
            }
            int at = p;
            for (int i = length - 1; i >= 0; i--) {
                Pipe pipe = stock.pipes[at];
                sorts[i] = pipe.sort;
                fs[i] = pipe.f;
                amounts[i] = pipe.a;
                at = pipe.below;
            }
        }

        /** Whether there were neighbours for which a rule holds. */
        private boolean mergeFirst() {
            for (int i = 0; i + 1 < length; i++) {
                int k = ruleFor(i, i + 1);
                if (k >= 0) {
                    used[k]++;
                    become(k, i, i + 1);
                    removeAt(i + 1);
                    return true;
                }
            }
            return false;
        }

        private int ruleFor(int x, int y) {
            int below = sorts[x];
            int above = sorts[y];
            if (below == above) {
                return ruleForTwice(x, y);
            }
            if (below == CACHED && (above == SORTED || above == REVERSED)) {
                return 5;
            }
            return above == CACHED && (below == SORTED || below == REVERSED) ? 6 : -1;
        }

        private int ruleForTwice(int x, int y) {
            switch (sorts[x]) {
                case SKIPPED:
                    return 0;
                case TAKEN:
                    return 1;
                case REVERSED:
                    return 2;
                case DIFFERENT:
                    return 3;
                case SORTED:
                    return fs[x] == fs[y] ? 4 : -1;
                case CACHED:
                    return 5;
                case MAPPED:
                    int sizes = functionAt(fs[x]).size + functionAt(fs[y]).size;
                    return sizes < MOST_FUNCTION_SIZE ? 7 : -1;
                case LIMITED:
                    return 8;
                default:
                    return -1;
            }
        }

        private Fun functionAt(int f) {
            return f < stock.functionCount ? stock.functions[f] : made[f - stock.functionCount];
        }

        /** x becomes what both are; where nothing is done here it is that already. */
        private void become(int k, int x, int y) {
            switch (k) {
                case 0:
                    amounts[x] += amounts[y];
                    break;
                case 1:
                case 8:
                    amounts[x] = amounts[x] < amounts[y] ? amounts[x] : amounts[y];
                    break;
                case 2:
                    sorts[x] = CACHED;
                    break;
                case 5:
                    sorts[x] = sorts[y];
                    fs[x] = fs[y];
                    break;
                case 7:
                    Fun last = functionAt(fs[y]);
                    made[madeCount] = Fun.ofBoth(fs[y], last, fs[x], functionAt(fs[x]));
                    fs[x] = stock.functionCount + madeCount;
                    madeCount++;
                    break;
                default:
                    break;
            }
        }

        private void removeAt(int gone) {
            for (int i = gone; i + 1 < length; i++) {
                sorts[i] = sorts[i + 1];
                fs[i] = fs[i + 1];
                amounts[i] = amounts[i + 1];
            }
            length--;
        }
    }
}
