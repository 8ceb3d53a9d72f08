import java.util.ArrayList;
import java.util.List;

/**
 * The document once more, written apart from the class and in another manner: nothing is kept that can be found
 * out (SPENT, the parts' numbers), VALUES are the library's, failures find their place on their way up. ModelTest
 * compares both.
 */
final class Model {
    private static final int ANY = 5;

    /** What undo() takes away: how many there were of all ahead of it, and what it is. */
    private record Building(int what, int values, int functions, int comparators, int pipes, ModelPipe from) {
    }

    private final List<Object> values = new ArrayList<>();
    private final List<ModelFunction> functions = new ArrayList<>();
    private final List<List<ModelPipe.Key>> comparators = new ArrayList<>();
    private final List<ModelPipe> pipes = new ArrayList<>();
    private final List<Building> buildings = new ArrayList<>();
    private ModelRun latest = new ModelRun();
    private final List<Object> parts = new ArrayList<>();
    private int stepsOfAll = 0;
    private int[] rules = new int[9];
    /** How many there were of both when the latest RUN began, or at any time since then. */
    private int functionsKnown = 0;
    private int pipesKnown = 0;

    Model() {
        values.add(List.of());
    }

    private static <T> T at(List<T> list, int n) {
        return n >= 0 && n < list.size() ? list.get(n) : null;
    }

    private ModelFunction function(int f, int arity) {
        ModelFunction found = at(functions, f);
        return found != null && found.arity() == arity ? found : null;
    }

    /** For those who look for a VALUE that FITS; -1 if there is none such. */
    int kindOfValue(int n) {
        return at(values, n) == null ? -1 : ModelValue.kind(values.get(n));
    }

    private void note(int what, ModelPipe from) {
        buildings.add(new Building(what, values.size(), functions.size(), comparators.size(), pipes.size(), from));
    }

    private int addValue(Object v) {
        if (values.size() == 60 || ModelValue.isTooLarge(v)) {
            return -4;
        }
        note(0, null);
        values.add(v);
        return values.size() - 1;
    }

    int whole(long v) {
        return addValue(v);
    }

    int real(double v) {
        return Double.isNaN(v) || Double.isInfinite(v) ? -2 : addValue(v + 0.0);
    }

    int word(long letters) {
        String word = ModelValue.letters(letters);
        return word == null ? -2 : addValue(word);
    }

    int pair(int a, int b) {
        if (at(values, a) == null || at(values, b) == null) {
            return -2;
        }
        return addValue(new ModelValue.Two(values.get(a), values.get(b)));
    }

    int cons(int a, int b) {
        if (at(values, a) == null || !(at(values, b) instanceof List<?> list)) {
            return -2;
        }
        List<Object> made = new ArrayList<>();
        made.add(values.get(a));
        made.addAll(list);
        return addValue(List.copyOf(made));
    }

    private int addFunction(ModelFunction f) {
        if (functions.size() == 60 || f.size > 20) {
            return -4;
        }
        note(1, null);
        functions.add(f);
        functionsKnown = Math.min(functionsKnown, f.number);
        return f.number;
    }

    int basic(int code) {
        return ModelFunction.isCode(code) ? addFunction(ModelFunction.basic(functions.size(), code)) : -2;
    }

    int behind(int f, int g) {
        ModelFunction outer = function(f, 1);
        ModelFunction inner = at(functions, g);
        if (outer == null || inner == null) {
            return -2;
        }
        if (!ModelFunction.fit(outer.asks[0], inner.answers)) {
            return -3;
        }
        return addFunction(ModelFunction.behind(functions.size(), outer, inner));
    }

    int bind(int f, int value, boolean second) {
        ModelFunction inner = function(f, 2);
        Object v = at(values, value);
        if (inner == null || v == null) {
            return -2;
        }
        if (!ModelFunction.fit(inner.asks[second ? 1 : 0], ModelValue.kind(v))) {
            return -3;
        }
        return addFunction(ModelFunction.bound(functions.size(), inner, v, second));
    }

    int exchange(int f) {
        ModelFunction inner = function(f, 2);
        return inner == null ? -2 : addFunction(ModelFunction.exchanged(functions.size(), inner));
    }

    private int addComparator(List<ModelPipe.Key> keys) {
        if (comparators.size() == 20) {
            return -4;
        }
        note(2, null);
        comparators.add(keys);
        return comparators.size() - 1;
    }

    int key(int f, boolean down) {
        ModelFunction by = function(f, 1);
        return by == null ? -2 : addComparator(List.of(new ModelPipe.Key(by, down)));
    }

    int then(int c, int d) {
        if (at(comparators, c) == null || at(comparators, d) == null) {
            return -2;
        }
        List<ModelPipe.Key> keys = new ArrayList<>(comparators.get(c));
        keys.addAll(comparators.get(d));
        return keys.size() > 4 ? -2 : addComparator(keys);
    }

    /** Whether there is room for a PIPELINE of this SIZE. */
    private boolean hasRoom(int size) {
        return pipes.size() < 80 && size <= 40;
    }

    private int addPipe(ModelPipe made) {
        note(3, null);
        return enter(made);
    }

    private int enter(ModelPipe made) {
        pipes.add(made);
        pipesKnown = Math.min(pipesKnown, made.number);
        return made.number;
    }

    /** SPENT: it doesn't RESTART, and has been run, or one that there is was made of it. */
    private boolean isSpent(ModelPipe p) {
        boolean isBelow = pipes.stream().anyMatch(q -> q.below == p || q.second == p);
        boolean isRewritten = buildings.stream().anyMatch(b -> b.from() == p);
        return !p.restarts && (p.wasRun || isBelow || isRewritten);
    }

    int range(long a, long b) {
        java.math.BigInteger many = java.math.BigInteger.valueOf(b).subtract(java.math.BigInteger.valueOf(a));
        if (many.compareTo(java.math.BigInteger.valueOf(10000)) > 0) {
            return -2;
        }
        if (!hasRoom(1)) {
            return -4;
        }
        ModelPipe made = new ModelPipe(pipes.size(), 0, 0, true);
        made.from = a;
        made.to = b;
        return addPipe(made);
    }

    int iterate(int f, int value, int most, boolean second) {
        ModelFunction by = function(f, 1);
        Object v = at(values, value);
        if (by == null || v == null || most < 0 || most > 1000) {
            return -2;
        }
        int kind = ModelValue.kind(v);
        boolean fit = ModelFunction.fit(by.asks[0], kind)
            && (second ? ModelFunction.fit(by.answers, 3) : ModelFunction.fit(by.asks[0], by.answers));
        if (!fit) {
            return -3;
        }
        if (!hasRoom(1)) {
            return -4;
        }
        int gives = second || by.answers != kind ? ANY : kind;
        ModelPipe made = new ModelPipe(pipes.size(), second ? 2 : 1, gives, false);
        made.function = by;
        made.f = f;
        made.value = v;
        made.a = most;
        return addPipe(made);
    }

    int steps(double start, double by, int n) {
        if (n < 0 || n > 1000 || !(Math.abs(start) <= 1e9) || !(Math.abs(by) <= 1e9)) {
            return -2;
        }
        if (!hasRoom(1)) {
            return -4;
        }
        ModelPipe made = new ModelPipe(pipes.size(), 3, 1, true);
        made.start = start;
        made.by = by;
        made.a = n;
        return addPipe(made);
    }

    int row(int value) {
        Object v = at(values, value);
        if (!(v instanceof List) && !(v instanceof String)) {
            return -2;
        }
        if (!hasRoom(1)) {
            return -4;
        }
        boolean isWord = v instanceof String;
        ModelPipe made = new ModelPipe(pipes.size(), isWord ? 5 : 4, isWord ? 2 : ANY, !isWord);
        made.value = v;
        made.a = value;
        return addPipe(made);
    }

    int guard(int p, int sort, int note) {
        ModelPipe below = at(pipes, p);
        if (below == null) {
            return -1;
        }
        if (sort != 6 && sort != 7 || sort == 7 && (note < 0 || note > 1000)) {
            return -2;
        }
        if (!hasRoom(1 + below.size)) {
            return -4;
        }
        if (isSpent(below)) {
            return -5;
        }
        ModelPipe made = new ModelPipe(pipes.size(), sort, below.kind, below.restarts);
        made.below = below;
        made.a = note;
        made.size = 1 + below.size;
        return addPipe(made);
    }

    int both(int p, int q, int sort, int f) {
        ModelPipe one = at(pipes, p);
        ModelPipe two = at(pipes, q);
        if (one == null || two == null) {
            return -1;
        }
        ModelFunction by = sort == 9 ? function(f, 2) : null;
        if (sort < 8 || sort > 10 || sort == 9 && by == null) {
            return -2;
        }
        if (by != null && !(ModelFunction.fit(by.asks[0], one.kind) && ModelFunction.fit(by.asks[1], two.kind))) {
            return -3;
        }
        int size = 1 + one.size + two.size;
        if (!hasRoom(size)) {
            return -4;
        }
        if (isSpent(one) || isSpent(two) || one == two && !one.restarts) {
            return -5;
        }
        int kind = by != null ? by.answers : one.kind == two.kind ? one.kind : ANY;
        ModelPipe made = new ModelPipe(pipes.size(), sort, kind, one.restarts && two.restarts);
        made.below = one;
        made.second = two;
        made.function = by;
        made.f = by == null ? 0 : f;
        made.size = size;
        return addPipe(made);
    }

    /** -1 is the COMPARATOR without KEYS; null if there is none such. */
    private List<ModelPipe.Key> comparator(int c) {
        return c == -1 ? List.of() : at(comparators, c);
    }

    private static boolean usesComparator(int sort) {
        return sort == 20;
    }

    private static int argumentsOfStage(int sort) {
        return sort == 25 ? 2 : List.of(11, 12, 13, 14, 17, 18, 26, 28).contains(sort) ? 1 : 0;
    }

    private boolean isRightA(int sort, int a) {
        switch (sort) {
            case 15:
            case 16: return a >= 0 && a <= 1000;
            case 22:
            case 23: return a >= 1 && a <= 10;
            case 25:
            case 27: return at(values, a) != null;
            case 28: return a >= 1 && a <= 3;
            case 29: return a >= 0 && a <= 10000;
            default: return true;
        }
    }

    private static boolean keysFit(List<ModelPipe.Key> keys, int kind) {
        return keys.stream().allMatch(key -> ModelFunction.fit(key.f().asks[0], kind));
    }

    private static boolean foldFits(ModelFunction f, Object value, int kind) {
        return ModelFunction.fit(f.asks[1], kind) && ModelFunction.fit(f.asks[0], ModelValue.kind(value))
            && ModelFunction.fit(f.asks[0], f.answers);
    }

    private boolean stageFits(int sort, int f, int a, int kind) {
        if (usesComparator(sort)) {
            return keysFit(comparator(f), kind);
        }
        if (sort == 25) {
            return foldFits(functions.get(f), values.get(a), kind);
        }
        if (argumentsOfStage(sort) == 0) {
            return true;
        }
        ModelFunction by = functions.get(f);
        boolean answers = sort == 13 ? ModelFunction.fit(by.answers, 4)
            : sort == 11 || sort == 17 || sort == 18 ? ModelFunction.fit(by.answers, 0) : true;
        return answers && ModelFunction.fit(by.asks[0], kind);
    }

    int stage(int p, int sort, int f, int a) {
        ModelPipe below = at(pipes, p);
        if (below == null) {
            return -1;
        }
        int arguments = argumentsOfStage(sort);
        if (sort < 11 || sort > 30 || usesComparator(sort) && comparator(f) == null
            || arguments > 0 && function(f, arguments) == null || !isRightA(sort, a)) {
            return -2;
        }
        if (!stageFits(sort, f, a, below.kind)) {
            return -3;
        }
        if (!hasRoom(1 + below.size)) {
            return -4;
        }
        return isSpent(below) ? -5 : addPipe(stageOn(below, sort, f, a));
    }

    private ModelPipe stageOn(ModelPipe below, int sort, int f, int a) {
        ModelFunction by = argumentsOfStage(sort) > 0 ? functions.get(f) : null;
        Object value = sort == 25 || sort == 27 ? values.get(a) : null;
        int kind = below.kind;
        if (sort == 12 || sort == 25 || sort == 28) {
            kind = by.answers;
        } else if (sort == 13) {
            kind = ANY;
        } else if (sort == 22 || sort == 23 || sort == 26) {
            kind = 4;
        } else if (sort == 24) {
            kind = 3;
        } else if (sort == 27 && kind != ModelValue.kind(value)) {
            kind = ANY;
        }
        ModelPipe made = new ModelPipe(pipes.size(), sort, kind, below.restarts);
        made.below = below;
        made.size = 1 + below.size;
        made.function = by;
        made.value = value;
        made.comparator = usesComparator(sort) ? comparator(f) : null;
        made.f = by != null || usesComparator(sort) ? f : 0;
        made.a = List.of(15, 16, 22, 23, 25, 27, 28, 29).contains(sort) ? a : 0;
        return made;
    }

    private static boolean endUsesComparator(int end) {
        return end == 3 || end == 4 || end == 18;
    }

    private static int argumentsOfEnd(int end) {
        return end == 9 ? 2 : List.of(6, 7, 8, 12, 14, 15).contains(end) ? 1 : 0;
    }

    private boolean endFits(int end, int f, int a, int kind) {
        if (end == 1 || end == 17) {
            return ModelFunction.fit(kind, 0);
        }
        if (end == 2) {
            return ModelFunction.fit(kind, 1);
        }
        if (end == 16) {
            return ModelFunction.fit(kind, 2);
        }
        if (endUsesComparator(end)) {
            return keysFit(comparator(f), kind);
        }
        if (end == 9) {
            return foldFits(functions.get(f), values.get(a), kind);
        }
        if (argumentsOfEnd(end) == 0) {
            return true;
        }
        ModelFunction by = functions.get(f);
        boolean answers = end == 12 || end == 14 || ModelFunction.fit(by.answers, 0);
        return answers && ModelFunction.fit(by.asks[0], kind);
    }

    private int refusal(int p, int end, int f, int a) {
        ModelPipe pipe = at(pipes, p);
        if (pipe == null) {
            return -1;
        }
        int arguments = argumentsOfEnd(end);
        if (end < 0 || end > 19 || endUsesComparator(end) && comparator(f) == null
            || arguments > 0 && function(f, arguments) == null || end == 9 && at(values, a) == null
            || end == 11 && (a < 0 || a > 1000) || end == 18 && (a < 1 || a > 10)) {
            return -2;
        }
        if (!endFits(end, f, a, pipe.kind)) {
            return -3;
        }
        if (isSpent(pipe)) {
            return -5;
        }
        return stepsOfAll >= 16000 ? -6 : 0;
    }

    private ModelRun perform(int p, int end, int f, int a) {
        ModelRun run = new ModelRun();
        ModelPipe.Place top = new ModelPipe.Place(run, pipes.get(p));
        ModelFunction by = argumentsOfEnd(end) > 0 ? functions.get(f) : null;
        List<ModelPipe.Key> keys = endUsesComparator(end) ? comparator(f) : null;
        try {
            run.result = new ModelEnd(run, top, by, keys, a, end == 9 ? values.get(a) : null).result(end);
        } catch (ModelRun.Failed failed) {
            failed.place(-1, 0);
            run.failure = failed;
        }
        run.closeAll();
        stepsOfAll += run.steps;
        return run;
    }

    int run(int p, int end, int f, int a) {
        int refusal = refusal(p, end, f, a);
        if (refusal != 0) {
            return refusal;
        }
        latest = perform(p, end, f, a);
        pipes.get(p).wasRun = true;
        functionsKnown = functions.size();
        pipesKnown = pipes.size();
        parts.clear();
        if (latest.result != null) {
            number(latest.result);
        }
        return latest.answer();
    }

    private void number(Object v) {
        parts.add(v);
        ModelValue.parts(v).forEach(this::number);
    }

    int foretell(int p, int end, int f, int a) {
        int refusal = refusal(p, end, f, a);
        return refusal != 0 ? refusal : perform(p, end, f, a).answer();
    }

    int equal(int p, int q, int end, int f, int a) {
        int refusal = refusal(p, end, f, a);
        refusal = refusal != 0 ? refusal : refusal(q, end, f, a);
        if (refusal != 0) {
            return refusal;
        }
        ModelRun one = perform(p, end, f, a);
        ModelRun two = perform(q, end, f, a);
        if (one.failure != null && two.failure != null) {
            return one.failure.number == two.failure.number ? 1 : 0;
        }
        return one.failure == null && two.failure == null && ModelValue.isSame(one.result, two.result) ? 1 : 0;
    }

    int kind(int n) {
        return at(parts, n) == null ? -1 : ModelValue.kind(parts.get(n));
    }

    int size(int n) {
        Object v = at(parts, n);
        return v == null ? -1 : v instanceof String word ? word.length() : ModelValue.parts(v).size();
    }

    int part(int n, int i) {
        Object v = at(parts, n);
        if (v == null || i < 0 || i >= ModelValue.parts(v).size()) {
            return -1;
        }
        return n + 1 + ModelValue.parts(v).subList(0, i).stream().mapToInt(ModelValue::weight).sum();
    }

    long told(int n) {
        Object v = at(parts, n);
        if (v instanceof Long told) {
            return told;
        }
        if (v instanceof String word) {
            return ModelValue.digits(word);
        }
        throw new IllegalArgumentException();
    }

    double measured(int n) {
        if (at(parts, n) instanceof Double v) {
            return v;
        }
        throw new IllegalArgumentException();
    }

    int calls(int f) {
        return at(functions, f) == null ? -1 : f >= functionsKnown ? 0 : latest.callsOf(f);
    }

    private ModelRun.Call kept(int k) {
        return k < 100 ? at(latest.calls, k) : null;
    }

    int call(int k) {
        return kept(k) == null ? -1 : kept(k).f();
    }

    long argument(int k, boolean second) {
        ModelRun.Call call = kept(k);
        Object of = call == null ? null : second ? call.y() : call.x();
        if (of == null) {
            throw new IllegalArgumentException();
        }
        return ModelValue.hash(of);
    }

    int given(int p) {
        return at(pipes, p) == null ? -1 : p >= pipesKnown ? 0 : latest.given.getOrDefault(p, 0);
    }

    int failure(int what) {
        switch (what) {
            case 0: return latest.failure == null ? 0 : latest.failure.number;
            case 1: return latest.failure == null ? -1 : latest.failure.at;
            case 2: return latest.failure == null ? 0 : latest.failure.given;
            case 3: return latest.closed.size();
            case 4: return latest.suppressed.size();
            default: return -2;
        }
    }

    int closed(int k, boolean suppressed) {
        Integer note = at(suppressed ? latest.suppressed : latest.closed, k);
        if (note == null) {
            throw new IllegalArgumentException();
        }
        return note;
    }

    /** A stage of a rewrite(); f is a FUNCTION's number, which may be that of a new one. */
    private record Step(int sort, int f, int a) {
    }

    int rewrite(int p) {
        ModelPipe pipe = at(pipes, p);
        if (pipe == null) {
            return -1;
        }
        List<Step> steps = new ArrayList<>();
        ModelPipe base = pipe;
        for (; base.sort >= 11; base = base.below) {
            steps.add(0, new Step(base.sort, base.f, base.a));
        }
        List<ModelFunction> all = new ArrayList<>(functions);
        int[] used = new int[9];
        boolean changed = false;
        while (joinFirst(steps, all, used)) {
            changed = true;
        }
        if (changed && (all.size() > 60 || pipes.size() + steps.size() > 80)) {
            return -4;
        }
        if (isSpent(pipe)) {
            return -5;
        }
        rules = used;
        return changed ? build(pipe, base, steps, all) : p;
    }

    private int build(ModelPipe pipe, ModelPipe base, List<Step> steps, List<ModelFunction> all) {
        note(4, pipe);
        for (ModelFunction f : all.subList(functions.size(), all.size())) {
            functions.add(f);
            functionsKnown = Math.min(functionsKnown, f.number);
        }
        ModelPipe top = base;
        for (Step step : steps) {
            top = stageOn(top, step.sort(), step.f(), step.a());
            enter(top);
        }
        return top.number;
    }

    private static boolean joinFirst(List<Step> steps, List<ModelFunction> all, int[] used) {
        for (int i = 0; i + 1 < steps.size(); i++) {
            for (int rule = 0; rule < 9; rule++) {
                Step one = joined(rule, steps.get(i), steps.get(i + 1), all);
                if (one != null) {
                    used[rule]++;
                    steps.set(i, one);
                    steps.remove(i + 1);
                    return true;
                }
            }
        }
        return false;
    }

    /** What x below and y become by this rule, or null if it doesn't hold. */
    private static Step joined(int rule, Step x, Step y, List<ModelFunction> all) {
        switch (rule) {
            case 0: return are(x, y, 15, 15) ? new Step(15, 0, x.a() + y.a()) : null;
            case 1: return are(x, y, 16, 16) ? new Step(16, 0, Math.min(x.a(), y.a())) : null;
            case 2: return are(x, y, 21, 21) ? new Step(30, 0, 0) : null;
            case 3: return are(x, y, 19, 19) ? x : null;
            case 4: return are(x, y, 20, 20) && x.f() == y.f() ? x : null;
            case 5: return are(x, y, 30, 20) || are(x, y, 30, 21) || are(x, y, 30, 30) ? y : null;
            case 6: return are(x, y, 20, 30) || are(x, y, 21, 30) ? x : null;
            case 7:
                if (!are(x, y, 12, 12) || all.get(x.f()).size + all.get(y.f()).size >= 20) {
                    return null;
                }
                all.add(ModelFunction.behind(all.size(), all.get(y.f()), all.get(x.f())));
                return new Step(12, all.size() - 1, 0);
            default: return are(x, y, 29, 29) ? new Step(29, 0, Math.min(x.a(), y.a())) : null;
        }
    }

    private static boolean are(Step x, Step y, int below, int above) {
        return x.sort() == below && y.sort() == above;
    }

    int rule(int k) {
        return k < 0 || k > 8 ? -2 : rules[k];
    }

    int look(int p, int what) {
        ModelPipe pipe = at(pipes, p);
        if (pipe == null) {
            return -1;
        }
        switch (what) {
            case 0: return pipe.sort;
            case 1: return pipe.below == null ? -1 : pipe.below.number;
            case 2: return pipe.second == null ? -1 : pipe.second.number;
            case 3: return pipe.f;
            case 4: return pipe.a;
            case 5: return pipe.size;
            case 6: return pipe.kind;
            case 7: return pipe.restarts ? 1 : 0;
            case 8: return isSpent(pipe) ? 1 : 0;
            default: return -2;
        }
    }

    int shape(int f, int what) {
        ModelFunction fun = at(functions, f);
        if (fun == null || what < 0 || what > 4) {
            return -2;
        }
        int second = fun.arity() == 2 ? fun.asks[1] : -1;
        return List.of(fun.arity(), fun.asks[0], second, fun.answers, fun.size).get(what);
    }

    int undo() {
        if (buildings.isEmpty()) {
            return -1;
        }
        Building last = buildings.remove(buildings.size() - 1);
        shorten(values, last.values());
        shorten(functions, last.functions());
        shorten(comparators, last.comparators());
        shorten(pipes, last.pipes());
        return last.what();
    }

    private static void shorten(List<?> list, int size) {
        list.subList(size, list.size()).clear();
    }

    int count(int what) {
        switch (what) {
            case 0: return values.size();
            case 1: return functions.size();
            case 2: return comparators.size();
            case 3: return pipes.size();
            case 4: return latest.steps;
            case 5: return latest.calls.size();
            case 6: return stepsOfAll;
            case 7: return buildings.size();
            default: return -2;
        }
    }
}
