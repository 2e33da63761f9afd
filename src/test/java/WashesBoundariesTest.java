import java.util.Arrays;

/** Promises 14 to 16, and the terms of care and days: each sentence that names a boundary, by itself. */
public final class WashesBoundariesTest {
    private static final int NONE = WardrobeKeeper.NONE;

    private final Checks checks = new Checks();

    public static void main(String[] args) {
        WashesBoundariesTest test = new WashesBoundariesTest();
        test.loadCareOutOfRange();
        test.loadOfNothing();
        test.loadIsLightUpToThree();
        test.loadByEachCare();
        test.loadOfWhatIsNotClean();
        test.loadOfMoreThanFive();
        test.loadOfGivenAway();
        test.washCareOutOfRange();
        test.washOfNothing();
        test.washIsLightUpToThree();
        test.washByEachCare();
        test.washOfWhatWasWorn();
        test.washOfAtMostFive();
        test.washOfTwelve();
        test.washOfTheLeastLeftFirst();
        test.washOfTheLowestNumbersFirst();
        test.washOfGivenAway();
        test.washOfEachKind();
        test.washLeavesTooSoon();
        test.passDaysOutOfRange();
        test.passTellsToday();
        test.passUpToTheLastDay();
        test.passArgumentBeforeState();
        test.passRefusedThenLess();
        test.checks.end("WashesBoundariesTest");
    }

    /** So many tops, 1 upwards, of the wears told, worn once; the bottom 0 is dark, and clean enough. */
    private static WardrobeKeeper wornOnce(int... wears) {
        WardrobeKeeper x = Wardrobes.with(Wardrobes.bottom(7, 0, 9));
        for (int each : wears) {
            x.wear(x.add(0, 0, 0, each, 0), 0, NONE, 0);
        }
        return x;
    }

    /** Twelve light things of care 0, each not clean. */
    private static WardrobeKeeper twelveWornOut() {
        WardrobeKeeper x = Wardrobes.ofSixAndSix(1);
        for (int top = 0; top < 12; top += 2) {
            x.wear(top, top + 1, NONE, 0);
        }
        return x;
    }

    // ---- promise 14

    private void loadCareOutOfRange() {
        checks.says("14: care: 0 to 2");
        WardrobeKeeper x = twelveWornOut();
        for (int wrong : Checks.outOf(0, 2)) {
            checks.dueFor(wrong, Checks.ARGUMENT, () -> x.load(wrong, false));
            checks.dueFor(wrong, Checks.ARGUMENT, () -> x.load(wrong, true));
        }
        for (int care = 0; care <= 2; care++) {
            int right = care;
            checks.dueFor(care, care == 0 ? 12 : 0, () -> x.load(right, false));
            checks.dueFor(care, 0, () -> x.load(right, true));
        }
    }

    private void loadOfNothing() {
        checks.says("14: 0 if there are no things, or all are clean");
        for (int care = 0; care <= 2; care++) {
            int each = care;
            checks.dueFor(care, 0, () -> new WardrobeKeeper().load(each, false));
            checks.dueFor(care, 0, () -> new WardrobeKeeper().load(each, true));
            checks.dueFor(care, 0, () -> Wardrobes.ofThree().load(each, false));
            checks.dueFor(care, 0, () -> Wardrobes.ofThree().load(each, true));
        }
    }

    private void loadIsLightUpToThree() {
        checks.says("14: light, or dark: Colours 0 to 3 are light, the others dark");
        for (int colour = 0; colour < 8; colour++) {
            WardrobeKeeper x = Wardrobes.with(Wardrobes.top(colour, 0, 1), Wardrobes.bottom(0, 0, 9));
            x.wear(0, 1, NONE, 0);
            checks.dueFor(colour, colour <= 3 ? 1 : 0, () -> x.load(0, false));
            checks.dueFor(colour, colour <= 3 ? 0 : 1, () -> x.load(0, true));
        }
    }

    private void loadByEachCare() {
        checks.says("14: things of a care");
        for (int care = 0; care <= 2; care++) {
            WardrobeKeeper x = Wardrobes.with(new int[] {0, 7, 0, 1, care}, Wardrobes.bottom(0, 0, 9));
            x.wear(0, 1, NONE, 0);
            for (int each = 0; each <= 2; each++) {
                int asked = each;
                checks.dueFor(care, each == care ? 1 : 0, () -> x.load(asked, true));
            }
        }
    }

    private void loadOfWhatIsNotClean() {
        checks.says("14: that are not clean, which the last wear makes them");
        WardrobeKeeper x = Wardrobes.with(Wardrobes.top(0, 0, 2), Wardrobes.bottom(0, 0, 3),
                Wardrobes.coat(0, 0, 2));
        int[] want = {0, 0, 2};
        for (int worn = 0; worn < 3; worn++) {
            checks.dueFor(worn, want[worn], () -> x.load(0, false));
            if (worn < 2) {
                x.wear(0, 1, 2, 0);
            }
        }
        x.wash(0, false);
        checks.due(0, () -> x.load(0, false));
    }

    private void loadOfMoreThanFive() {
        checks.says("14: it can be more than 5");
        for (int tops = 4; tops <= 9; tops++) {
            int[] wears = new int[tops];
            Arrays.fill(wears, 1);
            WardrobeKeeper x = wornOnce(wears);
            checks.dueFor(tops, tops, () -> x.load(0, false));
        }
        checks.due(12, () -> twelveWornOut().load(0, false));
    }

    private void loadOfGivenAway() {
        checks.says("14: of things that were not given away");
        WardrobeKeeper x = twelveWornOut();
        for (int thing = 0; thing < 12; thing++) {
            checks.dueFor(thing, 12 - thing, () -> x.load(0, false));
            x.giveAway(thing);
        }
        checks.due(0, () -> x.load(0, false));
    }

    // ---- promise 15

    private void washCareOutOfRange() {
        checks.says("15: care: 0 to 2");
        WardrobeKeeper x = twelveWornOut();
        for (int wrong : Checks.outOf(0, 2)) {
            checks.dueFor(wrong, Checks.ARGUMENT, () -> x.wash(wrong, false));
            checks.dueFor(wrong, Checks.ARGUMENT, () -> x.wash(wrong, true));
        }
        checks.due(12, () -> x.load(0, false));
    }

    private void washOfNothing() {
        checks.says("15: 0 if no such thing was worn");
        for (int care = 0; care <= 2; care++) {
            int each = care;
            checks.dueFor(care, 0, () -> new WardrobeKeeper().wash(each, false));
            checks.dueFor(care, 0, () -> new WardrobeKeeper().wash(each, true));
            checks.dueFor(care, 0, () -> Wardrobes.ofThree().wash(each, false));
            checks.dueFor(care, 0, () -> Wardrobes.ofThree().wash(each, true));
        }
    }

    private void washIsLightUpToThree() {
        checks.says("15: light, or dark: Colours 0 to 3 are light, the others dark");
        for (int colour = 0; colour < 8; colour++) {
            boolean isDark = colour > 3;
            WardrobeKeeper x = Wardrobes.with(Wardrobes.top(colour, 0, 1), new int[] {1, 0, 0, 9, 1});
            x.wear(0, 1, NONE, 0);
            checks.dueFor(colour, 0, () -> x.wash(0, !isDark));
            checks.dueFor(colour, 0, () -> x.left(0));
            checks.dueFor(colour, 1, () -> x.wash(0, isDark));
            checks.dueFor(colour, 1, () -> x.left(0));
        }
    }

    private void washByEachCare() {
        checks.says("15: all things of a care");
        WardrobeKeeper x = Wardrobes.with(new int[] {0, 0, 0, 1, 0}, new int[] {1, 0, 0, 1, 1},
                new int[] {2, 0, 0, 1, 2});
        x.wear(0, 1, 2, 0);
        for (int care = 0; care <= 2; care++) {
            int each = care;
            checks.dueFor(care, 0, () -> x.left(each));
            checks.dueFor(care, 1, () -> x.wash(each, false));
            checks.dueFor(care, 1, () -> x.left(each));
            checks.dueFor(care, 0, () -> x.wash(each, false));
        }
    }

    private void washOfWhatWasWorn() {
        checks.says("15: were worn since their last wash, clean still or not");
        WardrobeKeeper x = Wardrobes.with(Wardrobes.top(0, 0, 9), Wardrobes.bottom(0, 0, 9),
                Wardrobes.top(0, 0, 9), Wardrobes.bottom(0, 0, 9));
        x.wear(0, 1, NONE, 0);
        checks.due(0, () -> x.load(0, false));
        checks.due(2, () -> x.wash(0, false));
        checks.due(9, () -> x.left(0));
        checks.due(9, () -> x.left(1));
        checks.due(0, () -> x.wash(0, false));
        x.wear(2, 1, NONE, 0);
        checks.due(2, () -> x.wash(0, false));
    }

    private void washOfAtMostFive() {
        checks.says("15: but at most 5");
        for (int tops = 0; tops <= 9; tops++) {
            int[] wears = new int[tops];
            Arrays.fill(wears, 1);
            WardrobeKeeper x = wornOnce(wears);
            int first = Math.min(tops, 5);
            int rest = tops - first;
            checks.dueFor(tops, first, () -> x.wash(0, false));
            checks.dueFor(tops, rest, () -> x.load(0, false));
            checks.dueFor(tops, rest, () -> x.wash(0, false));
            checks.dueFor(tops, 0, () -> x.wash(0, false));
        }
    }

    private void washOfTwelve() {
        checks.says("15: Returns how many are washed, of twelve");
        WardrobeKeeper x = twelveWornOut();
        checks.due(5, () -> x.wash(0, false));
        checks.due(7, () -> x.load(0, false));
        checks.due(1, () -> x.left(4));
        checks.due(0, () -> x.left(5));
        checks.due(5, () -> x.wash(0, false));
        checks.due(1, () -> x.left(9));
        checks.due(0, () -> x.left(10));
        checks.due(2, () -> x.wash(0, false));
        checks.due(1, () -> x.left(11));
        checks.due(0, () -> x.wash(0, false));
    }

    private void leftIs(WardrobeKeeper x, int... want) {
        for (int place = 0; place < want.length; place++) {
            int thing = place + 1;
            checks.dueFor(thing, want[place], () -> x.left(thing));
        }
    }

    private void washOfTheLeastLeftFirst() {
        checks.says("15: those of which left() is least first");
        WardrobeKeeper x = wornOnce(9, 8, 7, 6, 5, 4, 3);
        checks.due(5, () -> x.wash(0, false));
        leftIs(x, 8, 7, 7, 6, 5, 4, 3);
        checks.due(2, () -> x.wash(0, false));
        leftIs(x, 9, 8, 7, 6, 5, 4, 3);
        WardrobeKeeper y = wornOnce(2, 9, 1, 8, 3, 7);
        checks.due(5, () -> y.wash(0, false));
        leftIs(y, 2, 8, 1, 8, 3, 7);
    }

    private void washOfTheLowestNumbersFirst() {
        checks.says("15: of several those with the lowest numbers");
        WardrobeKeeper x = wornOnce(3, 3, 3, 3, 3, 3, 3);
        checks.due(5, () -> x.wash(0, false));
        leftIs(x, 3, 3, 3, 3, 3, 2, 2);
        WardrobeKeeper y = wornOnce(4, 4, 4, 4, 4, 4, 1, 1);
        checks.due(5, () -> y.wash(0, false));
        leftIs(y, 4, 4, 4, 3, 3, 3, 1, 1);
        checks.due(3, () -> y.wash(0, false));
        leftIs(y, 4, 4, 4, 4, 4, 4, 1, 1);
    }

    private void washOfGivenAway() {
        checks.says("15: of things that were not given away, which take no place");
        WardrobeKeeper x = wornOnce(1, 1, 1, 1, 1, 1, 1);
        x.giveAway(1);
        x.giveAway(4);
        checks.due(5, () -> x.wash(0, false));
        checks.due(1, () -> x.left(7));
        checks.due(0, () -> x.wash(0, false));
        checks.due(Checks.INDEX, () -> x.left(1));
        checks.due(6, x::things);
    }

    private void washOfEachKind() {
        checks.says("15: all things: tops, bottoms and coats");
        WardrobeKeeper x = Wardrobes.with(Wardrobes.top(0, 0, 3), Wardrobes.bottom(0, 0, 3),
                Wardrobes.coat(0, 0, 3));
        x.wear(0, 1, 2, 0);
        checks.due(3, () -> x.wash(0, false));
        for (int thing = 0; thing < 3; thing++) {
            int each = thing;
            checks.dueFor(thing, 3, () -> x.left(each));
        }
    }

    private void washLeavesTooSoon() {
        checks.says("15: Washes, so that what was seen is as it was");
        WardrobeKeeper x = wornOnce(1);
        x.wash(0, false);
        x.wear(1, 0, NONE, 1);
        x.wash(0, false);
        x.wash(0, true);
        checks.due(true, () -> x.isTooSoon(1, 0, 1));
        checks.due(Checks.STATE, () -> x.wear(1, 0, NONE, 1));
    }

    // ---- promise 16

    private void passDaysOutOfRange() {
        checks.says("16: days: 1 to 365");
        WardrobeKeeper x = new WardrobeKeeper();
        for (int wrong : Checks.outOf(1, 365)) {
            checks.dueFor(wrong, Checks.ARGUMENT, () -> x.pass(wrong));
        }
        checks.due(1, () -> x.pass(1));
        checks.due(366, () -> x.pass(365));
        for (int days = 1; days <= 365; days++) {
            int right = days;
            checks.dueFor(days, right, () -> new WardrobeKeeper().pass(right));
        }
    }

    private void passTellsToday() {
        checks.says("16: Returns today then");
        WardrobeKeeper x = new WardrobeKeeper();
        int today = 0;
        for (int days = 1; days <= 100; days++) {
            int more = days;
            today += more;
            int want = today;
            checks.dueFor(days, want, () -> x.pass(more));
        }
    }

    private void passUpToTheLastDay() {
        checks.says("16: IllegalStateException if today would be above 10000");
        WardrobeKeeper x = new WardrobeKeeper();
        Wardrobes.passUntil(x, 0, 9999);
        checks.due(Checks.STATE, () -> x.pass(2));
        checks.due(10000, () -> x.pass(1));
        checks.due(Checks.STATE, () -> x.pass(1));
        checks.due(Checks.STATE, () -> x.pass(365));
        WardrobeKeeper y = new WardrobeKeeper();
        Wardrobes.passUntil(y, 0, 9635);
        checks.due(10000, () -> y.pass(365));
        WardrobeKeeper z = new WardrobeKeeper();
        Wardrobes.passUntil(z, 0, 9636);
        checks.due(Checks.STATE, () -> z.pass(365));
        checks.due(10000, () -> z.pass(364));
    }

    private void passArgumentBeforeState() {
        checks.says("16: if several apply, the one that it lists first is thrown");
        WardrobeKeeper x = new WardrobeKeeper();
        Wardrobes.passUntil(x, 0, 10000);
        for (int wrong : Checks.outOf(1, 365)) {
            checks.dueFor(wrong, Checks.ARGUMENT, () -> x.pass(wrong));
        }
    }

    private void passRefusedThenLess() {
        checks.says("16: days that are refused do not pass");
        WardrobeKeeper x = Wardrobes.ofThree();
        Wardrobes.passUntil(x, 0, 9990);
        x.wear(0, 1, NONE, 1);
        checks.due(Checks.STATE, () -> x.pass(11));
        checks.due(true, () -> x.isTooSoon(0, 1, 1));
        checks.due(9991, () -> x.pass(1));
        checks.due(Checks.ARGUMENT, () -> x.pass(0));
        checks.due(9996, () -> x.pass(5));
        checks.due(true, () -> x.isTooSoon(0, 1, 1));
        checks.due(9997, () -> x.pass(1));
        checks.due(false, () -> x.isTooSoon(0, 1, 1));
    }
}
