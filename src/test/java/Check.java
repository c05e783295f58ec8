/** Counts the answers of a test that are not the due ones, and tells each of them. */
final class Check {
    private final String name;
    private int made = 0;
    private int wrong = 0;
    private String subject = "";

    Check(String name) {
        this.name = name;
    }

    /** Tells what the checks from here on are about. */
    void about(String newSubject) {
        subject = newSubject;
    }

    int made() {
        return made;
    }

    void due(String call, long got, long want) {
        made++;
        if (got != want) {
            tell(call + " answered " + got + ", due is " + want);
        }
    }

    void due(String call, boolean got, boolean want) {
        made++;
        if (got != want) {
            tell(call + " answered " + got + ", due is " + want);
        }
    }

    void dueText(String call, String got, String want) {
        made++;
        if (!got.equals(want)) {
            tell(call + " answered " + got + ", due is " + want);
        }
    }

    void dueExactly(String call, double got, double want) {
        made++;
        if (Double.compare(got, want) != 0) {
            tell(call + " answered " + got + ", due is " + want);
        }
    }

    /** Checks that a call throws an exception of just this class. */
    void refuses(String call, Class<? extends RuntimeException> due, Runnable made) {
        this.made++;
        try {
            made.run();
        } catch (RuntimeException e) {
            if (e.getClass() != due) {
                tell(call + " threw " + e + ", due is " + due.getSimpleName());
            }
            return;
        }
        tell(call + " threw nothing, due is " + due.getSimpleName());
    }

    void refusesIndex(String call, Runnable made) {
        refuses(call, IndexOutOfBoundsException.class, made);
    }

    void refusesArgument(String call, Runnable made) {
        refuses(call, IllegalArgumentException.class, made);
    }

    void refusesState(String call, Runnable made) {
        refuses(call, IllegalStateException.class, made);
    }

    /** Ends the program, with exit code 1 if an answer was wrong. */
    void end() {
        System.out.println(name + ": " + made + " answers, " + wrong + " wrong");
        if (wrong != 0 || made == 0) {
            System.exit(1);
        }
    }

    private void tell(String text) {
        wrong++;
        if (wrong <= 40) {
            System.out.println(name + ": " + subject + text);
        }
    }
}
