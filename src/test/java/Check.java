/** Counts what the tests find: each due() is one comparison of an answer with the one that is due. */
final class Check {
    /** A call that may throw. */
    interface Call {
        void run() throws Exception;
    }

    private static int passed;
    private static int failed;

    private Check() {
    }

    static void due(String what, long got, long want) {
        report(got == want, what + " answered " + got + ", due is " + want);
    }

    static void due(String what, boolean got, boolean want) {
        report(got == want, what + " answered " + got + ", due is " + want);
    }

    static void due(String what, double got, double want) {
        report(Double.compare(got, want) == 0, what + " answered " + got + ", due is " + want);
    }

    static void due(String what, String got, String want) {
        report(got.equals(want), what + " answered " + got + ", due is " + want);
    }

    /** The call must throw just this class, and leave the house as it was. */
    static void refused(SecretDinner house, String what, Class<? extends Exception> want, Call call) {
        long before = house.digest();
        String got = "nothing";
        try {
            call.run();
        } catch (Exception e) {
            got = e.getClass().getName();
        }
        report(got.equals(want.getName()), what + " threw " + got + ", due is " + want.getName());
        due(what + " changes nothing: digest()", house.digest(), before);
    }

    private static void report(boolean good, String text) {
        if (good) {
            passed++;
        } else {
            failed++;
            if (failed <= 40) {
                System.out.println(text);
            }
        }
    }

    static void end() {
        System.out.println(passed + " answers are as due, " + failed + " are not");
        if (failed != 0 || passed == 0) {
            System.exit(1);
        }
    }
}
