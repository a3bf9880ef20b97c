/** Counts the answers that are as due and prints those that are not. */
final class Check {
    private static int passed;
    private static int failed;

    private Check() {
    }

    static void due(String call, long got, long want) {
        count(got == want, call, got, want);
    }

    static void due(String call, String got, String want) {
        count(got.equals(want), call, got, want);
    }

    static void dueReal(String call, double got, double want) {
        count(got == want, call, got, want);
    }

    static void isTrue(String call, boolean got) {
        count(got, call, got, true);
    }

    static void isFalse(String call, boolean got) {
        count(!got, call, got, false);
    }

    static void dueThrow(String call, Class<? extends RuntimeException> want, Runnable run) {
        String got = "nothing";
        try {
            run.run();
        } catch (RuntimeException e) {
            got = e.getClass().getSimpleName();
        }
        count(got.equals(want.getSimpleName()), call + " throws", got, want.getSimpleName());
    }

    static void outOfBounds(String call, Runnable run) {
        dueThrow(call, IndexOutOfBoundsException.class, run);
    }

    static void badArgument(String call, Runnable run) {
        dueThrow(call, IllegalArgumentException.class, run);
    }

    static void badState(String call, Runnable run) {
        dueThrow(call, IllegalStateException.class, run);
    }

    static void unsupported(String call, Runnable run) {
        dueThrow(call, UnsupportedOperationException.class, run);
    }

    static void noElement(String call, Runnable run) {
        dueThrow(call, java.util.NoSuchElementException.class, run);
    }

    private static void count(boolean isAsDue, String call, Object got, Object want) {
        if (isAsDue) {
            passed++;
        } else {
            failed++;
            System.out.println(call + " answered " + got + ", due is " + want);
        }
    }

    /** Prints what was counted, and ends the program with 1 if an answer was not as due. */
    static void close(String test) {
        System.out.println(test + ": " + passed + " as due, " + failed + " not");
        if (failed != 0 || passed == 0) {
            System.exit(1);
        }
    }
}
