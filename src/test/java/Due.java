import java.util.Arrays;

/** Counts the answers of one test and ends it with exit code 1 if one was not as due. */
final class Due {
    private final String test;
    private int asked = 0;
    private int wrong = 0;

    Due(String test) {
        this.test = test;
    }

    void same(String call, long got, long want) {
        asked++;
        if (got != want) {
            wrong++;
            System.out.println(test + ": " + call + " answered " + got + ", due is " + want);
        }
    }

    void words(String call, int[] got, int[] want) {
        asked++;
        if (!Arrays.equals(got, want)) {
            wrong++;
            System.out.println(test + ": " + call + " answered " + Arrays.toString(got) + ", due is "
                + Arrays.toString(want));
        }
    }

    void text(String call, String got, String want) {
        asked++;
        if (!got.equals(want)) {
            wrong++;
            System.out.println(test + ": " + call + " answered " + got + ", due is " + want);
        }
    }

    /** Two tellings of what calls answered, too long to print. */
    void alike(String call, String got, String want) {
        same(call + " (1: as if it had not been made)", got.equals(want) ? 1 : 0, 1);
    }

    /** What enter() or resume() answered, and what result() and steps() tell of it. */
    void ran(PageMonitor x, String call, int got, int answer, int result, int steps) {
        same(call, got, answer);
        same(call + ": result()", x.result(), result);
        same(call + ": steps()", x.steps(), steps);
    }

    /** All that is told of a page. */
    void told(PageMonitor x, int page, int kind, int space, int state, int count) {
        same("told(" + page + ", 0)", x.told(page, 0), kind);
        same("told(" + page + ", 1)", x.told(page, 1), space);
        same("told(" + page + ", 2)", x.told(page, 2), state);
        same("told(" + page + ", 3)", x.told(page, 3), count);
    }

    /** The call throws exactly that exception, not one of its subclasses. */
    void thrown(String call, Class<? extends RuntimeException> want, Runnable run) {
        asked++;
        Class<?> got = null;
        try {
            run.run();
        } catch (RuntimeException e) {
            got = e.getClass();
        }
        if (got != want) {
            wrong++;
            System.out.println(test + ": " + call + " threw " + got + ", due is " + want);
        }
    }

    void end() {
        System.out.println(test + ": " + asked + " answers, " + wrong + " not as due");
        if (wrong != 0 || asked == 0) {
            System.exit(1);
        }
    }
}
