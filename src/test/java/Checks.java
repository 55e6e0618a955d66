/** What the tests share: it counts the answers that are due and prints those that are not. */
final class Checks {
    private static int passed = 0;
    private static int failed = 0;

    private Checks() {
    }

    static void due(String what, Object want, Object got) {
        if (want.equals(got)) {
            passed++;
        } else {
            failed++;
            System.out.println(what + " answered " + got + ", due is " + want);
        }
    }

    /** Exactly the due class: one above or below it is wrong too. */
    static void refused(String what, Class<? extends RuntimeException> want, Runnable call) {
        due(what, "throws " + want.getSimpleName(), outcomeOf(call));
    }

    private static String outcomeOf(Runnable call) {
        try {
            call.run();
            return "nothing thrown";
        } catch (RuntimeException e) {
            return "throws " + e.getClass().getSimpleName();
        }
    }

    static void finish(String test) {
        System.out.println(test + ": " + passed + " passed, " + failed + " failed");
        if (failed != 0 || passed == 0) {
            System.exit(1);
        }
    }
}
