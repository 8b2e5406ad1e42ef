/** Counts and prints what is not as due; end() closes the test program with exit code 1 if there was any. */
final class Check {
    interface Call {
        long run();
    }

    private int checked;
    private int wrong;

    void due(String what, long got, long due) {
        checked++;
        if (got != due) {
            report(what + " answered " + got + ", due is " + due);
        }
    }

    void due(String what, boolean got, boolean due) {
        due(what, got ? 1 : 0, due ? 1 : 0);
    }

    void told(String what, Object got, Object due) {
        checked++;
        if (!got.equals(due)) {
            report(what + " answered " + got + ", due is " + due);
        }
    }

    /** The call must throw just this class (a subclass would be the machine's own) and change nothing. */
    void refused(String what, SignalSpacing x, Class<?> type, Call call) {
        checked++;
        long before = x.digest();
        try {
            report(what + " answered " + call.run() + ", due is throws." + type.getSimpleName());
        } catch (RuntimeException e) {
            if (e.getClass() != type) {
                report(what + " threw " + e + ", due is throws." + type.getSimpleName());
            }
        }
        due(what + ": the digest after the exception", x.digest(), before);
    }

    void report(String line) {
        wrong++;
        System.out.println(line);
    }

    void end() {
        System.out.println(checked + " answers looked at, " + wrong + " not as due");
        if (wrong != 0 || checked == 0) {
            System.exit(1);
        }
    }
}
