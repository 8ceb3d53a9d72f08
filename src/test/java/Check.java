/** Counts what is not as due; each test ends with finish(). */
final class Check {
    private final String name;
    private int looked = 0;
    private int wrong = 0;
    private String about = "";

    Check(String name) {
        this.name = name;
    }

    /** What the next checks are about, by the document's promises. */
    void about(String what) {
        about = what;
    }

    void due(long want, long got) {
        looked++;
        if (want != got) {
            tell("answered " + got + ", due is " + want);
        }
    }

    void due(boolean want, boolean got) {
        due(want ? 1L : 0L, got ? 1L : 0L);
    }

    void due(double want, double got) {
        looked++;
        if (Double.doubleToRawLongBits(want) != Double.doubleToRawLongBits(got)) {
            tell("answered " + got + ", due is " + want);
        }
    }

    void due(String want, String got) {
        looked++;
        if (!want.equals(got)) {
            tell("answered " + got + ", due is " + want);
        }
    }

    /** A call of the face that may throw. */
    interface Call {
        void make();
    }

    /** A call of the face that answers a number. */
    interface Answer {
        int of(StageConveyor x);
    }

    void dueThrow(Call call) {
        looked++;
        try {
            call.make();
            tell("threw nothing, due is IllegalArgumentException");
        } catch (RuntimeException e) {
            if (e.getClass() != IllegalArgumentException.class) {
                tell("threw " + e + ", due is IllegalArgumentException");
            }
        }
    }

    void finish() {
        System.out.println(name + ": " + looked + " checks, " + wrong + " wrong");
        if (wrong != 0 || looked == 0) {
            System.exit(1);
        }
    }

    private void tell(String what) {
        wrong++;
        System.out.println(name + ".java" + lines() + " (" + about + "): " + what);
    }

    /** The test's own lines, the innermost first: a helper's line alone tells too little. */
    private String lines() {
        StringBuilder so = new StringBuilder();
        for (StackTraceElement e : new Throwable().getStackTrace()) {
            if (e.getClassName().equals(name) && !e.getMethodName().equals("main")) {
                so.append(':').append(e.getLineNumber());
            }
        }
        return so.toString();
    }
}
