import java.util.ArrayList;
import java.util.List;

/** Counts and tells the answers that are not as due. */
final class Checks {
    static final String INDEX = "IndexOutOfBoundsException";
    static final String ARGUMENT = "IllegalArgumentException";
    static final String STATE = "IllegalStateException";

    /** A call whose answer, or exception, is looked at. */
    interface Call {
        Object answer();
    }

    private int wrong = 0;
    private int looked = 0;
    private String sentence = "";

    /** The call's answer, or the simple name of what it throws. */
    static Object answerOf(Call call) {
        try {
            return call.answer();
        } catch (RuntimeException thrown) {
            return thrown.getClass().getSimpleName();
        }
    }

    void due(String what, Object want, Call call) {
        Object got = answerOf(call);
        looked++;
        if (!want.equals(got)) {
            wrong++;
            System.out.println(what + ": answered " + got + ", due is " + want);
        }
    }

    /** The sentence of the document that the next answers are looked at for. */
    void says(String sentence) {
        this.sentence = sentence;
    }

    /** Looks at an answer for the sentence that was said last. */
    void due(Object want, Call call) {
        due(sentence, want, call);
    }

    /** Like due, where one sentence has answers for many numbers. */
    void dueFor(int number, Object want, Call call) {
        due(sentence + " [" + number + "]", want, call);
    }

    /**
     * Numbers out of a range: next to it, far from it, and such as would fall into it if they were
     * cut to fewer bits, or wrapped around.
     */
    static int[] outOf(int least, int most) {
        int[] steps = {32, 64, 256, 4096, 65536, Integer.MIN_VALUE};
        List<Integer> found = new ArrayList<>(List.of(least - 1, most + 1,
                Integer.MIN_VALUE, Integer.MAX_VALUE));
        for (int step : steps) {
            found.addAll(List.of(least + step, most + step, least - step, most - step));
        }
        return found.stream().distinct().filter(number -> number < least || number > most)
                .mapToInt(number -> number).toArray();
    }

    boolean areAllRight() {
        return wrong == 0;
    }

    /** Tells how it went, and ends the program with 1 if an answer was wrong. */
    void end(String name) {
        System.out.println(name + ": " + looked + " answers looked at, " + wrong + " wrong");
        if (wrong != 0) {
            System.exit(1);
        }
    }
}
