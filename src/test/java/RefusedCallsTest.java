import java.util.ArrayList;
import java.util.List;

/**
 * "A call that throws changes nothing.": of two objects with the same calls, one is refused a call
 * more, and after that both answer alike, whatever is asked.
 */
public final class RefusedCallsTest {
    private static final int NONE = WardrobeKeeper.NONE;
    private static final int FAR = Integer.MIN_VALUE;

    /** A state to be refused in, made anew for each refused call. */
    private interface State {
        WardrobeKeeper make();
    }

    private interface Refused {
        Object call(WardrobeKeeper x);
    }

    private final Checks checks = new Checks();

    public static void main(String[] args) {
        RefusedCallsTest test = new RefusedCallsTest();
        test.refusedByIndex();
        test.refusedByArgument();
        test.refusedByState();
        test.checks.end("RefusedCallsTest");
    }

    // ---- states

    private static WardrobeKeeper fresh() {
        return Wardrobes.with(Wardrobes.top(0, 3, 2), Wardrobes.bottom(4, 4, 3), Wardrobes.coat(7, 5, 2));
    }

    /** With a clash, a day later, and the outfit of 0 and 1 seen by the person 0. */
    private static WardrobeKeeper worn() {
        WardrobeKeeper x = fresh();
        x.add(0, 4, 1, 1, 1);
        x.add(1, 3, 1, 4, 2);
        x.setClash(0, 3, true);
        x.wear(0, 1, 2, 1);
        x.pass(1);
        x.wear(3, 4, NONE, 128);
        return x;
    }

    /** Twelve were added, things 0 and 1 are not clean, and two are given away. */
    private static WardrobeKeeper full() {
        WardrobeKeeper x = Wardrobes.ofSixAndSix(1);
        x.wear(0, 1, NONE, 255);
        x.giveAway(10);
        x.giveAway(11);
        return x;
    }

    private static WardrobeKeeper atTheEnd() {
        WardrobeKeeper x = fresh();
        Wardrobes.passUntil(x, 0, 9999);
        x.wear(0, 1, NONE, 3);
        return x;
    }

    // ---- refused calls

    private void refusedByIndex() {
        State[] states = {RefusedCallsTest::fresh, RefusedCallsTest::worn, RefusedCallsTest::full,
            RefusedCallsTest::atTheEnd};
        for (State state : states) {
            for (int wrong : new int[] {-2, 12, 32, 33, FAR, Integer.MAX_VALUE}) {
                same(state, Checks.INDEX, x -> x.giveAway(wrong));
                same(state, Checks.INDEX, x -> x.left(wrong));
                same(state, Checks.INDEX, x -> x.isPossible(wrong, 1, NONE));
                same(state, Checks.INDEX, x -> x.isPossible(0, wrong, NONE));
                same(state, Checks.INDEX, x -> x.isPossible(0, 1, wrong));
                same(state, Checks.INDEX, x -> x.isTooSoon(wrong, 1, 1));
                same(state, Checks.INDEX, x -> x.isTooSoon(0, wrong, 1));
                same(state, Checks.INDEX, x -> x.wear(wrong, 1, NONE, 2));
                same(state, Checks.INDEX, x -> x.wear(0, wrong, NONE, 2));
                same(state, Checks.INDEX, x -> x.wear(0, 1, wrong, 2));
                same(state, Checks.INDEX, x -> x.adds(wrong, 0));
            }
        }
        same(RefusedCallsTest::full, Checks.INDEX, x -> x.giveAway(10));
        same(RefusedCallsTest::full, Checks.INDEX, x -> x.wear(2, 11, NONE, 255));
    }

    private void refusedByArgument() {
        State[] states = {RefusedCallsTest::fresh, RefusedCallsTest::worn, RefusedCallsTest::full,
            RefusedCallsTest::atTheEnd};
        for (State state : states) {
            for (int wrong : new int[] {-1, 4096, FAR, Integer.MAX_VALUE}) {
                same(state, Checks.ARGUMENT, x -> x.add(wrong, 0, 0, 1, 0));
                same(state, Checks.ARGUMENT, x -> x.add(0, wrong, 0, 1, 0));
                same(state, Checks.ARGUMENT, x -> x.add(0, 0, wrong, 1, 0));
                same(state, Checks.ARGUMENT, x -> x.add(0, 0, 0, wrong, 0));
                same(state, Checks.ARGUMENT, x -> x.add(0, 0, 0, 1, wrong));
                same(state, Checks.ARGUMENT, x -> x.setClash(wrong, 0, true));
                same(state, Checks.ARGUMENT, x -> x.setClash(0, wrong, true));
                same(state, Checks.ARGUMENT, x -> x.setClash(0, wrong, false));
                same(state, Checks.ARGUMENT, x -> x.isTooSoon(0, 1, wrong));
                same(state, Checks.ARGUMENT, x -> x.wear(0, 1, NONE, wrong));
                same(state, Checks.ARGUMENT, x -> x.outfits(wrong));
                same(state, Checks.ARGUMENT, x -> x.adds(0, wrong));
                same(state, Checks.ARGUMENT, x -> x.outfitFor(wrong, 0));
                same(state, Checks.ARGUMENT, x -> x.outfitFor(0, wrong));
                same(state, Checks.ARGUMENT, x -> x.load(wrong, true));
                same(state, Checks.ARGUMENT, x -> x.wash(wrong, false));
                same(state, Checks.ARGUMENT, x -> x.wash(wrong, true));
                same(state, Checks.ARGUMENT, x -> x.pass(wrong));
                same(state, Checks.ARGUMENT, x -> x.isEnough(wrong, 1, 0));
                same(state, Checks.ARGUMENT, x -> x.isEnough(3, wrong, 0));
                same(state, Checks.ARGUMENT, x -> x.isEnough(3, 1, wrong));
                same(state, Checks.ARGUMENT, x -> x.bag(wrong, 0));
                same(state, Checks.ARGUMENT, x -> x.bag(1, wrong));
            }
            same(state, Checks.ARGUMENT, x -> x.isPossible(1, 0, NONE));
            same(state, Checks.ARGUMENT, x -> x.isPossible(0, 1, 1));
            same(state, Checks.ARGUMENT, x -> x.isTooSoon(1, 1, 1));
            same(state, Checks.ARGUMENT, x -> x.wear(0, 0, NONE, 2));
            same(state, Checks.ARGUMENT, x -> x.wear(1, 1, NONE, 2));
            same(state, Checks.ARGUMENT, x -> x.wear(0, 1, 0, 2));
            same(state, Checks.ARGUMENT, x -> x.pass(0));
        }
    }

    private void refusedByState() {
        same(RefusedCallsTest::full, Checks.STATE, x -> x.add(0, 0, 0, 1, 0));
        same(RefusedCallsTest::full, Checks.STATE, x -> x.add(2, 7, 10, 9, 2));
        same(RefusedCallsTest::full, Checks.STATE, x -> x.wear(0, 3, NONE, 2));
        same(RefusedCallsTest::full, Checks.STATE, x -> x.wear(2, 1, NONE, 2));
        same(RefusedCallsTest::worn, Checks.STATE, x -> x.wear(0, 1, NONE, 255));
        same(RefusedCallsTest::worn, Checks.STATE, x -> x.wear(0, 1, 2, 1));
        same(RefusedCallsTest::worn, Checks.STATE, x -> x.wear(0, 4, NONE, 2));
        same(RefusedCallsTest::worn, Checks.STATE, x -> x.wear(3, 1, NONE, 2));
        same(RefusedCallsTest::atTheEnd, Checks.STATE, x -> x.wear(0, 1, 2, 2));
        same(RefusedCallsTest::atTheEnd, Checks.STATE, x -> x.pass(2));
        same(RefusedCallsTest::atTheEnd, Checks.STATE, x -> x.pass(365));
    }

    private void same(State state, String exception, Refused refused) {
        WardrobeKeeper untouched = state.make();
        WardrobeKeeper x = state.make();
        checks.says("Terms: A call that throws changes nothing");
        checks.due(exception, () -> refused.call(x));
        checks.due(exception, () -> refused.call(x));
        checks.due(answersOf(untouched), () -> answersOf(x));
    }

    // ---- all that can be asked of an object

    /** Some 300 answers, so that an object stays below its 512 calls. */
    private static List<Object> answersOf(WardrobeKeeper x) {
        List<Object> answers = new ArrayList<>();
        askForThings(x, answers);
        askForOutfits(x, answers);
        askForBags(x, answers);
        askForDays(x, answers);
        askForWashes(x, answers);
        askForClashes(x, answers);
        answers.add(Checks.answerOf(() -> x.add(0, 0, 0, 1, 0)));
        return answers;
    }

    private static void askForThings(WardrobeKeeper x, List<Object> answers) {
        answers.add(x.things());
        for (int thing = 0; thing <= 12; thing++) {
            int each = thing;
            answers.add(Checks.answerOf(() -> x.left(each)));
            answers.add(Checks.answerOf(() -> x.adds(each, 0)));
        }
    }

    private static void askForOutfits(WardrobeKeeper x, List<Object> answers) {
        for (int warmth = 0; warmth <= 20; warmth++) {
            answers.add(x.outfits(warmth));
            answers.add(x.outfitFor(warmth, 1));
        }
        answers.add(x.missingTop());
    }

    private static void askForBags(WardrobeKeeper x, List<Object> answers) {
        for (int days = 1; days <= 9; days++) {
            answers.add(x.bag(days, 0));
            int asked = days;
            answers.add(Checks.answerOf(() -> x.isEnough(27, asked, 0)));
        }
    }

    private static void askForDays(WardrobeKeeper x, List<Object> answers) {
        for (int days = 0; days <= 7; days++) {
            for (int person = 1; person <= 128; person *= 2) {
                int people = person;
                answers.add(Checks.answerOf(() -> x.isTooSoon(0, 1, people)));
            }
            answers.add(Checks.answerOf(() -> x.isTooSoon(3, 4, 255)));
            answers.add(Checks.answerOf(() -> x.pass(1)));
        }
    }

    private static void askForWashes(WardrobeKeeper x, List<Object> answers) {
        for (int care = 0; care <= 2; care++) {
            answers.add(x.load(care, false));
            answers.add(x.load(care, true));
            answers.add(x.wash(care, false));
            answers.add(x.wash(care, true));
        }
        askForThings(x, answers);
    }

    private static void askForClashes(WardrobeKeeper x, List<Object> answers) {
        for (int pair = 0; pair < 64; pair++) {
            answers.add(x.setClash(pair / 8, pair % 8, false));
        }
    }
}
