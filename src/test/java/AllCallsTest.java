/** "An object is used for at most 512 calls": it answers rightly up to the last of them. */
public final class AllCallsTest {
    private static final int CALLS = 512;
    private static final int NONE = WardrobeKeeper.NONE;

    private final Checks checks = new Checks();

    public static void main(String[] args) {
        AllCallsTest test = new AllCallsTest();
        test.outfitsOnNewDays();
        test.washesAndWears();
        test.refusedCalls();
        test.manyPeople();
        test.bags();
        test.checks.end("AllCallsTest");
    }

    private void outfitsOnNewDays() {
        checks.says("at most 512 calls: an outfit each week");
        WardrobeKeeper x = Wardrobes.with(Wardrobes.top(0, 1, 9), Wardrobes.bottom(0, 1, 9));
        int today = 0;
        for (int calls = 2; calls + 4 <= CALLS; calls += 4) {
            int call = calls;
            today += 7;
            int want = today;
            checks.dueFor(call, 2, () -> x.wear(0, 1, NONE, 255));
            checks.dueFor(call, Checks.STATE, () -> x.wear(0, 1, NONE, 128));
            checks.dueFor(call, 2, () -> x.wash(0, false));
            checks.dueFor(call, want, () -> x.pass(7));
        }
    }

    private void washesAndWears() {
        checks.says("at most 512 calls: worn and washed again and again");
        WardrobeKeeper x = Wardrobes.with(Wardrobes.top(0, 0, 1), Wardrobes.bottom(0, 0, 1));
        for (int calls = 2; calls + 3 <= CALLS; calls += 3) {
            int call = calls;
            checks.dueFor(call, 0, () -> x.wear(0, 1, NONE, 0));
            checks.dueFor(call, 2, () -> x.load(0, false));
            checks.dueFor(call, 2, () -> x.wash(0, false));
        }
    }

    private void refusedCalls() {
        checks.says("at most 512 calls: those that throw with them");
        WardrobeKeeper x = Wardrobes.ofThree();
        for (int calls = 3; calls + 1 < CALLS; calls++) {
            int call = calls;
            checks.dueFor(call, Checks.ARGUMENT, () -> x.wear(0, 1, 2, 256 + call));
        }
        checks.due(12, () -> x.wear(0, 1, 2, 255));
    }

    private void manyPeople() {
        checks.says("at most 512 calls: each person sees each pair");
        WardrobeKeeper x = Wardrobes.ofSixAndSix(9);
        int calls = 12;
        for (int turn = 0; calls + 3 <= CALLS; turn++) {
            int people = 1 << turn % 8;
            int top = turn / 8 % 6 * 2;
            int bottom = (turn / 8 + turn / 48) % 6 * 2 + 1;
            checks.dueFor(turn, false, () -> x.isTooSoon(top, bottom, people));
            checks.dueFor(turn, 2, () -> x.wear(top, bottom, NONE, people));
            checks.dueFor(turn, 2, () -> x.wash(0, false));
            calls += 3;
        }
    }

    private void bags() {
        checks.says("at most 512 calls: the dearest of them");
        WardrobeKeeper x = Wardrobes.ofSixAndSix(3);
        for (int calls = 12; calls < CALLS; calls++) {
            checks.dueFor(calls, 4095, () -> x.bag(18, 2));
        }
    }
}
