/** Counts and prints the answers that are not as due, and ends the run with 1 if there was one. */
final class Due {
    private final String test;
    private int checks = 0;
    private int wrong = 0;

    Due(String test) {
        this.test = test;
    }

    void due(String call, int got, int want) {
        checks++;
        if (got != want) {
            wrong++;
            System.out.println(test + ": " + call + " answered " + got + ", due is " + want);
        }
    }

    void holds(String what, boolean yes) {
        due(what, yes ? 1 : 0, 1);
    }

    int wrongSoFar() {
        return wrong;
    }

    void close() {
        if (checks == 0) {
            System.out.println(test + ": nothing was checked");
            System.exit(1);
        }
        System.out.println(test + ": " + (checks - wrong) + " of " + checks + " answers as due");
        if (wrong != 0) {
            System.exit(1);
        }
    }
}
