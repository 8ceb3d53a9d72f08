import java.util.ArrayList;
import java.util.LinkedHashMap;
import java.util.List;
import java.util.Map;

/** The ENDS of the model. */
final class ModelEnd {
    private final ModelRun run;
    private final ModelPipe.Place below;
    private final ModelFunction f;
    private final List<ModelPipe.Key> comparator;
    private final int a;
    private final Object value;

    ModelEnd(ModelRun run, ModelPipe.Place below, ModelFunction f, List<ModelPipe.Key> comparator, int a,
            Object value) {
        this.run = run;
        this.below = below;
        this.f = f;
        this.comparator = comparator;
        this.a = a;
        this.value = value;
    }

    Object result(int end) {
        switch (end) {
            case 0: return howMany(false);
            case 1: return sum();
            case 2: return sumOfReals();
            case 3: return best(false);
            case 4: return best(true);
            case 5: return at(0);
            case 6: return holdsForOne(true) ? 1L : 0L;
            case 7: return holdsForOne(false) ? 0L : 1L;
            case 8: return holdsForOne(true) ? 0L : 1L;
            case 9: return folded();
            case 10: return all(false);
            case 11: return at(a);
            case 12: return howMany(true);
            case 13: return all(true);
            case 14: return groups();
            case 15: return parted();
            case 16: return joined();
            case 17: return summary();
            case 18: return greatest();
            case 19: return last();
            default: throw new AssertionError(end);
        }
    }

    private Object howMany(boolean calls) {
        long many = 0;
        for (Object v = below.ask(); v != null; v = below.ask()) {
            many++;
            if (calls) {
                f.call(run, v, null);
            }
        }
        return many;
    }

    private Object sum() {
        long sum = 0;
        for (Object v = below.ask(); v != null; v = below.ask()) {
            sum += ModelRun.asLong(v);
        }
        return sum;
    }

    private Object sumOfReals() {
        Object sum = 0.0;
        for (Object v = below.ask(); v != null; v = below.ask()) {
            if (!(v instanceof Double)) {
                throw new ModelRun.Failed(ModelRun.KIND);
            }
            sum = ModelRun.real((Double) sum + (Double) v);
        }
        return sum;
    }

    private Object best(boolean greatest) {
        ModelPipe.Keyed best = null;
        for (Object v = below.ask(); v != null; v = below.ask()) {
            ModelPipe.Keyed next = ModelPipe.keyed(run, comparator, v);
            int so = best == null ? 0 : ModelPipe.comparing(comparator).compare(next, best);
            if (best == null || (greatest ? so > 0 : so < 0)) {
                best = next;
            }
        }
        return orNone(best == null ? null : best.element());
    }

    private static Object orNone(Object v) {
        if (v == null) {
            throw new ModelRun.Failed(ModelRun.NONE);
        }
        return v;
    }

    private Object at(int which) {
        Object v = below.ask();
        for (int i = 0; i < which && v != null; i++) {
            v = below.ask();
        }
        return orNone(v);
    }

    private boolean holdsForOne(boolean sought) {
        for (Object v = below.ask(); v != null; v = below.ask()) {
            if (f.holds(run, v) == sought) {
                return true;
            }
        }
        return false;
    }

    private Object folded() {
        Object so = value;
        for (Object v = below.ask(); v != null; v = below.ask()) {
            so = f.call(run, so, v);
        }
        return so;
    }

    private static void put(List<Object> list, Object v) {
        if (list.size() == 40) {
            throw new ModelRun.Failed(ModelRun.SIZE);
        }
        list.add(v);
    }

    private Object all(boolean different) {
        List<Object> all = new ArrayList<>();
        for (Object v = below.ask(); v != null; v = below.ask()) {
            if (!different || !all.contains(v)) {
                put(all, v);
            }
        }
        return run.list(all.size(), all);
    }

    private Object groups() {
        Map<Object, List<Object>> groups = new LinkedHashMap<>();
        for (Object v = below.ask(); v != null; v = below.ask()) {
            Object mark = f.call(run, v, null);
            if (!groups.containsKey(mark) && groups.size() == 40) {
                throw new ModelRun.Failed(ModelRun.SIZE);
            }
            put(groups.computeIfAbsent(mark, none -> new ArrayList<>()), v);
        }
        List<Object> pairs = new ArrayList<>();
        groups.forEach((mark, group) -> pairs.add(run.pair(mark, run.list(group.size(), group))));
        return run.list(pairs.size(), pairs);
    }

    private Object parted() {
        List<Object> those = new ArrayList<>();
        List<Object> others = new ArrayList<>();
        for (Object v = below.ask(); v != null; v = below.ask()) {
            put(f.holds(run, v) ? those : others, v);
        }
        Object first = run.list(those.size(), those);
        Object second = run.list(others.size(), others);
        return run.pair(first, second);
    }

    private Object joined() {
        String so = "";
        for (Object v = below.ask(); v != null; v = below.ask()) {
            if (!(v instanceof String)) {
                throw new ModelRun.Failed(ModelRun.KIND);
            }
            so = (String) ModelRun.wordOf(so + v);
        }
        return so;
    }

    private Object summary() {
        List<Long> all = new ArrayList<>();
        for (Object v = below.ask(); v != null; v = below.ask()) {
            all.add(ModelRun.asLong(v));
        }
        List<Object> told = new ArrayList<>();
        told.add((long) all.size());
        told.add(all.stream().mapToLong(Long::longValue).sum());
        if (!all.isEmpty()) {
            told.add(all.stream().min(Long::compare).get());
            told.add(all.stream().max(Long::compare).get());
        }
        return run.list(told.size(), told);
    }

    private Object greatest() {
        List<ModelPipe.Keyed> all = new ArrayList<>();
        for (Object v = below.ask(); v != null; v = below.ask()) {
            all.add(ModelPipe.keyed(run, comparator, v));
        }
        all.sort(ModelPipe.comparing(comparator).reversed());
        List<Object> first = new ArrayList<>();
        all.stream().limit(a).forEach(one -> first.add(one.element()));
        return run.list(first.size(), first);
    }

    private Object last() {
        Object last = null;
        for (Object v = below.ask(); v != null; v = below.ask()) {
            last = v;
        }
        return orNone(last);
    }
}
