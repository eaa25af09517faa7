/** Counts and prints the answers that are not due. */
final class Check {
    private static int wrong = 0;

    private Check() {
    }

    static void due(String call, long want, long got) {
        if (got != want) {
            wrong++;
            System.out.println(call + " answered " + got + ", due is " + want);
        }
    }

    static void throwsA(Class<? extends Exception> due, String call, Runnable run) {
        Class<?> got = null;
        try {
            run.run();
        } catch (RuntimeException e) {
            got = e.getClass();
        }
        if (got != due) {
            wrong++;
            System.out.println(call + " threw " + got + ", due is " + due);
        }
    }

    static int wrongSoFar() {
        return wrong;
    }

    static void end() {
        if (wrong > 0) {
            System.exit(1);
        }
    }
}
