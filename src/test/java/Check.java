/** What the tests share: they tell each answer that is not the one due, and fail at the end if there was one. */
final class Check {
    private static int wrong = 0;
    private static int checked = 0;

    private Check() {
    }

    static void due(String call, Object got, Object want) {
        checked++;
        if (!want.equals(got)) {
            wrong++;
            System.out.println(call + " answered " + got + ", due is " + want);
        }
    }

    /**
     * What was thrown, told so that the machine's and the library's own exceptions differ from those that
     * the program throws itself: by the very class, and by whether a class of the project threw it.
     */
    static String thrown(RuntimeException e) {
        StackTraceElement[] calls = e.getStackTrace();
        String by = calls.length == 0 ? "the machine" : calls[0].getClassName();
        return e.getClass().getName() + (by.matches("(Deltacycle|Model)\\b.*") ? "" : " by " + by);
    }

    static void dueThrow(String call, Class<? extends RuntimeException> want, Runnable run) {
        checked++;
        String got = "nothing";
        try {
            run.run();
        } catch (RuntimeException e) {
            got = thrown(e);
        }
        if (!got.equals(want.getName())) {
            wrong++;
            System.out.println(call + " threw " + got + ", due is " + want.getName());
        }
    }

    static void end() {
        System.out.println(checked + " checked, " + wrong + " wrong");
        if (wrong != 0) {
            System.exit(1);
        }
    }
}
