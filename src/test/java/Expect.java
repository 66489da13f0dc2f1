/** Compares answers with those that are due, and remembers whether one was wrong. */
final class Expect {
    private final String name;
    private int compared = 0;
    private int wrong = 0;

    Expect(String name) {
        this.name = name;
    }

    void that(String what, long got, long due) {
        compared++;
        if (got != due) {
            complain(what + " answered " + got + ", due is " + due);
        }
    }

    void same(String what, String got, String due) {
        compared++;
        if (!got.equals(due)) {
            complain(what + " is " + got + ", due is " + due);
        }
    }

    /** Compares the values of the cells from the first one on. */
    void cells(OrderChains x, int first, int... values) {
        for (int i = 0; i < values.length; i++) {
            that("value of " + (first + i), x.cell(first + i, 0), values[i]);
        }
    }

    /** The exception's class must be exactly the one that is due: the machine itself throws subclasses. */
    void fails(String what, Class<? extends RuntimeException> due, Runnable call) {
        compared++;
        Class<?> got = null;
        try {
            call.run();
        } catch (RuntimeException e) {
            got = e.getClass();
        }
        if (got != due) {
            complain(what + " threw " + (got == null ? "nothing" : got.getName()) + ", due is " + due.getName());
        }
    }

    void complain(String text) {
        wrong++;
        if (wrong <= 20) {
            System.out.println(name + ": " + text);
        }
    }

    void finish() {
        System.out.println(name + ": " + compared + " answers, " + wrong + " wrong");
        if (wrong != 0) {
            System.exit(1);
        }
    }
}
