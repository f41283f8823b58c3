/** Counts answers that are not as due and ends a test's run. */
final class Check {
    private static int wrong = 0;
    private static int looked = 0;
    private static String about = "";

    private Check() {
    }

    /** A call that may throw. */
    interface Call {
        Object run() throws Exception;
    }

    /** Tells what the answers from here on are of. */
    static void about(String words) {
        about = words + ": ";
    }

    static void due(String what, Object got, Object want) {
        looked++;
        if (!want.equals(got)) {
            wrong++;
            System.out.println(about + what + " answered " + got + ", due is " + want);
        }
    }

    static void dueThrow(String what, Class<? extends Exception> want, Call call) {
        looked++;
        try {
            Object got = call.run();
            wrong++;
            System.out.println(about + what + " answered " + got + ", due is " + want.getSimpleName());
        } catch (Exception thrown) {
            if (thrown.getClass() != want) {
                wrong++;
                System.out.println(about + what + " threw " + thrown + ", due is " + want.getSimpleName());
            }
        }
    }

    static void end() {
        System.out.println(looked + " answers looked at, " + wrong + " not as due");
        if (wrong != 0 || looked == 0) {
            System.exit(1);
        }
    }
}
