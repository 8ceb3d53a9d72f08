/** Counts what is not as due; each test ends with finish(). */
final class Check {
    private final String name;
    private int looked = 0;
    private int wrong = 0;
    private String about = "";

    Check(String name) {
        this.name = name;
    }

    /** What the next checks are about, by the document's promises. */
    void about(String what) {
        about = what;
    }

    void due(long want, long got) {
        looked++;
        if (want != got) {
            tell("answered " + got + ", due is " + want);
        }
    }

    void due(double want, double got) {
        looked++;
        if (Double.doubleToRawLongBits(want) != Double.doubleToRawLongBits(got)) {
            tell("answered " + got + ", due is " + want);
        }
    }

    /** A call of the face that may throw. */
    interface Call {
        void make();
    }

    void dueThrow(Call call) {
        looked++;
        try {
            call.make();
            tell("threw nothing, due is IllegalArgumentException");
        } catch (IllegalArgumentException e) {
            if (e.getClass() != IllegalArgumentException.class) {
                tell("threw " + e);
            }
        }
    }

    void finish() {
        System.out.println(name + ": " + looked + " checks, " + wrong + " wrong");
        if (wrong != 0 || looked == 0) {
            System.exit(1);
        }
    }

    private void tell(String what) {
        wrong++;
        StackTraceElement[] trace = new Throwable().getStackTrace();
        int line = 0;
        for (StackTraceElement e : trace) {
            if (!e.getClassName().startsWith("Check")) {
                line = e.getLineNumber();
                break;
            }
        }
        System.out.println(name + ".java:" + line + " (" + about + "): " + what);
    }
}
