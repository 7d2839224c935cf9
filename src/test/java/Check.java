/** Counts what the tests look at, and prints every answer that is not the one that is due. */
final class Check {
    private static int passed;
    private static int failed;
    private static String about = "";

    private Check() {
    }

    /** Stands ahead of every complaint from now on. */
    static void about(String what) {
        about = what;
    }

    static int counted() {
        return passed + failed;
    }

    static void due(String call, long got, long want) {
        count(got == want, call + " answered " + got + ", due is " + want);
    }

    static void due(String call, boolean got, boolean want) {
        count(got == want, call + " answered " + got + ", due is " + want);
    }

    static void due(String call, String got, String want) {
        count(got.equals(want), call + " answered " + got + ", due is " + want);
    }

    /**
     * The call has to throw an exception of just this class, and to leave the object as it was. Only what few calls
     * show is looked at, as an object may be used for 512 of them; Refusals look at all.
     */
    static void refused(String call, RuleLists x, Class<? extends RuntimeException> want, Runnable run) {
        String before = Look.shortly(x);
        due(call, nameOfThrown(run), want.getName());
        due("all after " + call, Look.shortly(x), before);
    }

    static void noSuch(String call, RuleLists x, Runnable run) {
        refused(call, x, IndexOutOfBoundsException.class, run);
    }

    static void outOfRange(String call, RuleLists x, Runnable run) {
        refused(call, x, IllegalArgumentException.class, run);
    }

    static void notNow(String call, RuleLists x, Runnable run) {
        refused(call, x, IllegalStateException.class, run);
    }

    static String nameOfThrown(Runnable run) {
        try {
            run.run();
        } catch (RuntimeException e) {
            return e.getClass().getName();
        }
        return "nothing";
    }

    /** Ends the test program: exit code 1 if anything was not as it is due. */
    static void end() {
        System.out.println(passed + " passed, " + failed + " failed");
        if (failed != 0 || passed == 0) {
            System.exit(1);
        }
    }

    private static void count(boolean right, String complaint) {
        if (right) {
            passed++;
        } else {
            failed++;
            System.out.println(about + complaint);
        }
    }
}
