import java.util.ArrayList;
import java.util.Collections;
import java.util.Comparator;
import java.util.List;
import java.util.function.Supplier;

/** A PIPELINE of the model, and the places at which it stands in a RUN. */
final class ModelPipe {
    /** A KEY of a COMPARATOR. */
    record Key(ModelFunction f, boolean down) {
    }

    /** An element with what the KEYS gave of it. */
    record Keyed(Object element, List<Object> keys) {
    }

    final int number;
    final int sort;
    final int kind;
    final boolean restarts;
    ModelPipe below;
    ModelPipe second;
    /** What look() tells of f and a. */
    int f = 0;
    int a = 0;
    int size = 1;
    boolean wasRun = false;
    ModelFunction function;
    List<Key> comparator;
    Object value;
    long from;
    long to;
    double start;
    double by;

    ModelPipe(int number, int sort, int kind, boolean restarts) {
        this.number = number;
        this.sort = sort;
        this.kind = kind;
        this.restarts = restarts;
    }

    /** At a place in a RUN; ask() gives null if it has ENDED. */
    static final class Place implements ModelRun.Opened {
        private final ModelRun run;
        private final ModelPipe pipe;
        private final Place below;
        private final Place second;
        private final Supplier<Object> work;
        private int given = 0;
        private boolean ended = false;

        /** What the sorts of stages remember. */
        private boolean begun = false;
        private Object kept = null;
        private List<Object> row = new ArrayList<>();
        private long amount = 0;

        Place(ModelRun run, ModelPipe pipe) {
            this.run = run;
            this.pipe = pipe;
            this.below = pipe.below == null ? null : new Place(run, pipe.below);
            this.second = pipe.second == null ? null : new Place(run, pipe.second);
            this.work = pipe.sort <= 5 ? this::source : pipe.sort <= 10 ? this::ofOthers : this::stage;
        }

        @Override
        public int note() {
            return pipe.a;
        }

        @Override
        public int number() {
            return pipe.number;
        }

        @Override
        public int hasGiven() {
            return given;
        }

        Object ask() {
            if (ended) {
                return null;
            }
            Object v;
            try {
                v = work.get();
            } catch (ModelRun.Failed failed) {
                failed.place(pipe.number, given);
                throw failed;
            }
            if (v == null) {
                ended = true;
            } else {
                given++;
                run.given.merge(pipe.number, 1, Integer::sum);
            }
            return v;
        }

        private Object source() {
            Object element = made();
            if (element != null) {
                run.take(1);
            }
            return element;
        }

        private Object made() {
            switch (pipe.sort) {
                case 0:
                    return pipe.from < pipe.to && given < pipe.to - pipe.from ? (Object) (pipe.from + given) : null;
                case 1:
                    if (given >= pipe.a) {
                        return null;
                    }
                    kept = given == 0 ? pipe.value : pipe.function.call(run, kept, null);
                    return kept;
                case 2:
                    if (given >= pipe.a) {
                        return null;
                    }
                    Object both = pipe.function.call(run, given == 0 ? pipe.value : kept, null);
                    if (!(both instanceof ModelValue.Two two)) {
                        throw new ModelRun.Failed(ModelRun.KIND);
                    }
                    kept = two.second();
                    return two.first();
                case 3:
                    return given < pipe.a ? (Object) (pipe.start + given * pipe.by + 0.0) : null;
                case 4:
                    return given < ModelValue.parts(pipe.value).size() ? ModelValue.parts(pipe.value).get(given) : null;
                default:
                    String word = (String) pipe.value;
                    return given < word.length() ? word.substring(given, given + 1) : null;
            }
        }

        private Object ofOthers() {
            switch (pipe.sort) {
                case 6:
                    if (!begun) {
                        begun = true;
                        run.opened.add(this);
                    }
                    return below.ask();
                case 7:
                    if (given == pipe.a) {
                        throw new ModelRun.Failed(ModelRun.SOURCE);
                    }
                    return below.ask();
                case 8:
                    Object v = below.ask();
                    return v == null ? second.ask() : v;
                case 9:
                    Object x = below.ask();
                    if (x == null) {
                        return null;
                    }
                    Object y = second.ask();
                    return y == null ? null : pipe.function.call(run, x, y);
                default:
                    begun = !begun;
                    return begun ? below.ask() : second.ask();
            }
        }

        private Object stage() {
            switch (pipe.sort) {
                case 11: return kept();
                case 12: return mapped();
                case 13: return flat();
                case 14: return peeked();
                case 15: return skipped();
                case 16: return given < pipe.a ? below.ask() : null;
                case 17: return asLongAs();
                case 18: return from();
                case 19: return different();
                case 20:
                case 21:
                case 30: return ofAll();
                case 22: return window();
                case 23: return chunk();
                case 24: return beside();
                case 25: return folded();
                case 26: return grouped();
                case 27: return rescued();
                case 28: return retried();
                default: return limited();
            }
        }

        private Object kept() {
            Object v = below.ask();
            while (v != null && !pipe.function.holds(run, v)) {
                v = below.ask();
            }
            return v;
        }

        private Object mapped() {
            Object v = below.ask();
            return v == null ? null : pipe.function.call(run, v, null);
        }

        private Object flat() {
            while (row.isEmpty()) {
                Object v = below.ask();
                if (v == null) {
                    return null;
                }
                Object list = pipe.function.call(run, v, null);
                if (!(list instanceof List)) {
                    throw new ModelRun.Failed(ModelRun.KIND);
                }
                row.addAll(ModelValue.parts(list));
            }
            return row.remove(0);
        }

        private Object peeked() {
            Object v = below.ask();
            if (v != null) {
                pipe.function.call(run, v, null);
            }
            return v;
        }

        private Object skipped() {
            if (!begun) {
                begun = true;
                for (int i = 0; i < pipe.a; i++) {
                    below.ask();
                }
            }
            return below.ask();
        }

        private Object asLongAs() {
            Object v = below.ask();
            return v != null && pipe.function.holds(run, v) ? v : null;
        }

        private Object from() {
            Object v = below.ask();
            while (!begun && v != null) {
                if (pipe.function.holds(run, v)) {
                    v = below.ask();
                } else {
                    begun = true;
                }
            }
            return v;
        }

        private Object different() {
            Object v = below.ask();
            while (v != null && row.contains(v)) {
                v = below.ask();
            }
            if (v != null) {
                row.add(v);
            }
            return v;
        }

        private Object ofAll() {
            if (!begun) {
                begun = true;
                List<Keyed> all = new ArrayList<>();
                for (Object v = below.ask(); v != null; v = below.ask()) {
                    all.add(keyed(run, pipe.comparator, v));
                }
                if (pipe.sort == 20) {
                    all.sort(comparing(pipe.comparator));
                }
                if (pipe.sort == 21) {
                    Collections.reverse(all);
                }
                all.forEach(one -> row.add(one.element()));
            }
            return row.isEmpty() ? null : row.remove(0);
        }

        private Object window() {
            if (row.size() == pipe.a) {
                row.remove(0);
            }
            while (row.size() < pipe.a) {
                Object v = below.ask();
                if (v == null) {
                    return null;
                }
                row.add(v);
            }
            return run.list(pipe.a, row);
        }

        private Object chunk() {
            List<Object> together = new ArrayList<>();
            while (together.size() < pipe.a) {
                Object v = below.ask();
                if (v == null) {
                    break;
                }
                together.add(v);
            }
            return together.isEmpty() ? null : run.list(together.size(), together);
        }

        private Object beside() {
            Object one = given == 0 ? below.ask() : kept;
            Object next = one == null ? null : below.ask();
            kept = next;
            return next == null ? null : run.pair(one, next);
        }

        private Object folded() {
            Object v = below.ask();
            if (v == null) {
                return null;
            }
            kept = pipe.function.call(run, given == 0 ? pipe.value : kept, v);
            return kept;
        }

        /** The row has the group that has begun; kept is what f gave of it. */
        private Object grouped() {
            while (!begun) {
                Object v = below.ask();
                if (v == null) {
                    begun = true;
                    break;
                }
                Object mark = pipe.function.call(run, v, null);
                boolean joins = row.isEmpty() || ModelValue.isSame(mark, kept);
                if (joins && row.size() == 40) {
                    throw new ModelRun.Failed(ModelRun.SIZE);
                }
                if (joins) {
                    row.add(v);
                    kept = mark;
                    continue;
                }
                List<Object> group = row;
                row = new ArrayList<>(List.of(v));
                kept = mark;
                return run.list(group.size(), group);
            }
            List<Object> last = row;
            row = new ArrayList<>();
            return last.isEmpty() ? null : run.list(last.size(), last);
        }

        private Object rescued() {
            if (begun) {
                return null;
            }
            try {
                return below.ask();
            } catch (ModelRun.Failed failed) {
                if (failed.number == ModelRun.STEPS) {
                    throw failed;
                }
                begun = true;
                return pipe.value;
            }
        }

        private Object retried() {
            Object v = below.ask();
            if (v == null) {
                return null;
            }
            for (int again = 0; ; again++) {
                try {
                    return pipe.function.call(run, v, null);
                } catch (ModelRun.Failed failed) {
                    if (failed.number == ModelRun.STEPS || again == pipe.a) {
                        throw failed;
                    }
                }
            }
        }

        private Object limited() {
            Object v = below.ask();
            if (v == null) {
                return null;
            }
            amount += ModelValue.weight(v);
            if (amount > pipe.a) {
                throw new ModelRun.Failed(ModelRun.SIZE);
            }
            return v;
        }
    }

    /** No KEYS: the ORDER of the elements themselves. */
    static Keyed keyed(ModelRun run, List<Key> comparator, Object v) {
        List<Object> keys = new ArrayList<>();
        for (Key key : comparator == null ? List.<Key>of() : comparator) {
            keys.add(key.f().call(run, v, null));
        }
        return new Keyed(v, keys);
    }

    static Comparator<Keyed> comparing(List<Key> comparator) {
        if (comparator.isEmpty()) {
            return (x, y) -> ModelValue.order(x.element(), y.element());
        }
        Comparator<Keyed> so = (x, y) -> 0;
        for (int i = 0; i < comparator.size(); i++) {
            int k = i;
            Comparator<Keyed> by = (x, y) -> ModelValue.order(x.keys().get(k), y.keys().get(k));
            so = so.thenComparing(comparator.get(i).down() ? by.reversed() : by);
        }
        return so;
    }
}
