/** Counts the answers that are not as due; every test ends with end(). */
final class Check {
    private static int wrong = 0;

    private Check() {
    }

    static void same(String call, long got, long due) {
        if (got != due) {
            tell(call + " answered " + got + ", due is " + due);
        }
    }

    static void same(String call, boolean got, boolean due) {
        if (got != due) {
            tell(call + " answered " + got + ", due is " + due);
        }
    }

    static void refuses(String call, Class<? extends RuntimeException> due, Runnable made) {
        String got = "nothing";
        try {
            made.run();
        } catch (RuntimeException e) {
            if (e.getClass() == due) {
                return;
            }
            got = e.getClass().getSimpleName();
        }
        tell(call + " threw " + got + ", due is " + due.getSimpleName());
    }

    static void tell(String what) {
        wrong++;
        System.out.println(what);
    }

    static void end() {
        if (wrong != 0) {
            System.out.println(wrong + " answers are not as due");
            System.exit(1);
        }
    }
}
