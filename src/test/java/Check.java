/** Counts the answers of one test program that are, and those that are not, as due. */
final class Check {
    interface Call {
        Object answer();
    }

    private final String test;
    private int passed;
    private int failed;

    Check(String test) {
        this.test = test;
    }

    /** The answer of the call is due; a call that throws an exception has its class as its answer. */
    void due(Object want, String what, Call call) {
        Object got = answerOf(call);
        if (want.equals(got)) {
            passed++;
        } else {
            failed++;
            System.out.println(test + ": " + what + " answered " + got + ", due is " + want);
        }
    }

    static Object answerOf(Call call) {
        try {
            return call.answer();
        } catch (RuntimeException e) {
            return e.getClass();
        }
    }

    void finish() {
        System.out.println(test + ": " + passed + " answers as due, " + failed + " not");
        if (failed > 0 || passed == 0) {
            System.exit(1);
        }
    }
}
