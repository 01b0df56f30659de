/** Holds answers against those that are due, prints the wrong ones, ends with 1 if there was one. */
final class Due {
    private final String of;
    private int held;
    private int wrong;

    Due(String of) {
        this.of = of;
    }

    void is(String call, long got, long want) {
        held++;
        if (got != want) {
            wrong++;
            if (wrong <= 50) {
                System.out.println(of + ": " + call + " answered " + got + ", due is " + want);
            }
        }
    }

    void isTrue(String what, boolean holds) {
        is(what, holds ? 1 : 0, 1);
    }

    int wrongSoFar() {
        return wrong;
    }

    void close() {
        System.out.println(of + ": " + held + " answers held, " + wrong + " wrong");
        if (wrong != 0 || held == 0) {
            System.exit(1);
        }
    }
}
