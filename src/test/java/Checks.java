/** Counts and tells the answers that are not as due. */
final class Checks {
    /** A call whose answer, or exception, is looked at. */
    interface Call {
        Object answer();
    }

    private int wrong = 0;
    private int looked = 0;

    /** The call's answer, or the simple name of what it throws. */
    static Object answerOf(Call call) {
        try {
            return call.answer();
        } catch (RuntimeException thrown) {
            return thrown.getClass().getSimpleName();
        }
    }

    void due(String what, Object want, Call call) {
        Object got = answerOf(call);
        looked++;
        if (!want.equals(got)) {
            wrong++;
            System.out.println(what + ": answered " + got + ", due is " + want);
        }
    }

    boolean areAllRight() {
        return wrong == 0;
    }

    /** Tells how it went, and ends the program with 1 if an answer was wrong. */
    void end(String name) {
        System.out.println(name + ": " + looked + " answers looked at, " + wrong + " wrong");
        if (wrong != 0) {
            System.exit(1);
        }
    }
}
