import java.util.ArrayList;
import java.util.HashMap;
import java.util.List;
import java.util.Map;

/** A RUN of the model: its STEPS, its CALLS, and what came of it. */
final class ModelRun {
    static final int KIND = 1;
    static final int ZERO = 2;
    static final int BOUNDS = 3;
    static final int SIZE = 4;
    static final int RANGE = 5;
    static final int SOURCE = 6;
    static final int FLAKY = 7;
    static final int CLOSE = 8;
    static final int STEPS = 9;
    static final int NONE = 10;

    /** A failure; the first PIPELINE that it goes through on its way up is the one AT which it came. */
    static final class Failed extends RuntimeException {
        final int number;
        boolean placed;
        int at = -1;
        int given = 0;

        Failed(int number) {
            super(null, null, false, false);
            this.number = number;
        }

        void place(int atPipeline, int hadGiven) {
            if (!placed) {
                placed = true;
                at = atPipeline;
                given = hadGiven;
            }
        }
    }

    /** A CALL that is kept. */
    record Call(int f, Object x, Object y) {
    }

    /** An OPENED one. */
    interface Opened {
        int note();

        int number();

        int hasGiven();
    }

    int steps = 0;
    final List<Call> calls = new ArrayList<>();
    final Map<Integer, Integer> given = new HashMap<>();
    final List<Opened> opened = new ArrayList<>();
    final List<Integer> closed = new ArrayList<>();
    final List<Integer> suppressed = new ArrayList<>();
    Failed failure = null;
    Object result = null;

    void take(int many) {
        if (steps + many > 600) {
            steps = 600;
            throw new Failed(STEPS);
        }
        steps += many;
    }

    void note(ModelFunction f, Object x, Object y) {
        calls.add(new Call(f.number, x, y));
    }

    int callsOf(int f) {
        return (int) calls.stream().filter(call -> call.f() == f).count();
    }

    Object list(int cost, List<Object> elements) {
        take(cost);
        return checked(List.copyOf(elements));
    }

    Object pair(Object first, Object second) {
        return checked(new ModelValue.Two(first, second));
    }

    private static Object checked(Object made) {
        if (ModelValue.isTooLarge(made)) {
            throw new Failed(SIZE);
        }
        return made;
    }

    static Object wordOf(String letters) {
        if (letters.length() > 12) {
            throw new Failed(SIZE);
        }
        return letters;
    }

    static Object real(double v) {
        if (Double.isInfinite(v)) {
            throw new Failed(RANGE);
        }
        return v + 0.0;
    }

    static long asLong(Object v) {
        if (v instanceof Long n) {
            return n;
        }
        throw new Failed(KIND);
    }

    static boolean isTrue(Object v) {
        return asLong(v) != 0;
    }

    void closeAll() {
        while (!opened.isEmpty()) {
            Opened last = opened.remove(opened.size() - 1);
            closed.add(last.note());
            if (last.note() >= 0) {
                continue;
            }
            if (failure == null) {
                failure = new Failed(CLOSE);
                failure.place(last.number(), last.hasGiven());
                result = null;
            } else {
                suppressed.add(last.note());
            }
        }
    }

    int answer() {
        return failure != null ? -100 - failure.number : ModelValue.kind(result);
    }
}
