/** Collects the answers that are not as due, prints them, and ends the test. */
final class Due {
    private final String name;
    private int looked = 0;
    private int wrong = 0;

    Due(String name) {
        this.name = name;
    }

    void is(String call, long got, long want) {
        looked++;
        if (got != want) {
            tell(call + " answered " + got + ", due is " + want);
        }
    }

    void same(String call, String got, String want) {
        looked++;
        if (!got.equals(want)) {
            tell(call + " answered\n  " + got + ", due is\n  " + want);
        }
    }

    void yes(String what, boolean holds) {
        looked++;
        if (!holds) {
            tell(what + " does not hold");
        }
    }

    boolean hasWrong() {
        return wrong > 0;
    }

    /** The last call of a test: exit code 1 if an answer was wrong, or if none was looked at. */
    void end() {
        System.out.println(name + ": " + looked + " answers, " + wrong + " not as due");
        if (wrong != 0 || looked == 0) {
            System.exit(1);
        }
    }

    private void tell(String line) {
        wrong++;
        System.out.println(name + ": " + line);
    }
}
