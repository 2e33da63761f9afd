/** Promises 1 to 6, and the terms of things: each sentence that names a boundary, by itself. */
public final class ThingsBoundariesTest {
    private static final int NONE = WardrobeKeeper.NONE;

    private final Checks checks = new Checks();

    public static void main(String[] args) {
        ThingsBoundariesTest test = new ThingsBoundariesTest();
        test.newObjectHasNoThings();
        test.newObjectKnowsNoThing();
        test.newObjectIsOnDayZero();
        test.newObjectHasNoClashes();
        test.objectsShareNothing();
        test.kindOutOfRange();
        test.colourOutOfRange();
        test.warmthOutOfRange();
        test.wearsOutOfRange();
        test.careOutOfRange();
        test.allOutOfRange();
        test.leastAndMostThing();
        test.addedThingIsClean();
        test.numbersFromZeroToEleven();
        test.twelveAreEverAdded();
        test.twelveWithThingsGivenAway();
        test.argumentBeforeState();
        test.giveAwayNoSuchThing();
        test.giveAwayTwice();
        test.giveAwayToTheLast();
        test.givenAwayIsNoThingAnywhere();
        test.numbersAreNotUsedAgain();
        test.clashColourOutOfRange();
        test.clashTellsWhetherTheyDid();
        test.clashOfAColourWithItself();
        test.clashOfEachPairAlone();
        test.thingsFromNoneToTwelve();
        test.leftNoSuchThing();
        test.leftFromAllToNone();
        test.checks.end("ThingsBoundariesTest");
    }

    // ---- promise 1

    private void newObjectHasNoThings() {
        checks.says("1: No things");
        WardrobeKeeper x = new WardrobeKeeper();
        checks.due(0, x::things);
        checks.due(0, () -> x.outfits(0));
        checks.due(0, x::missingTop);
        checks.due(NONE, () -> x.outfitFor(0, 0));
        checks.due(0, () -> x.load(0, false));
        checks.due(0, () -> x.wash(0, true));
        checks.due(false, () -> x.isEnough(0, 1, 0));
        checks.due(0, () -> x.bag(1, 0));
    }

    private void newObjectKnowsNoThing() {
        checks.says("1: No things, so there is no such thing as 0");
        WardrobeKeeper x = new WardrobeKeeper();
        checks.due(Checks.INDEX, () -> x.giveAway(0));
        checks.due(Checks.INDEX, () -> x.left(0));
        checks.due(Checks.INDEX, () -> x.isPossible(0, 0, NONE));
        checks.due(Checks.INDEX, () -> x.isTooSoon(0, 0, 0));
        checks.due(Checks.INDEX, () -> x.wear(0, 0, NONE, 0));
        checks.due(Checks.INDEX, () -> x.adds(0, 0));
        checks.due(Checks.ARGUMENT, () -> x.isEnough(1, 1, 0));
    }

    private void newObjectIsOnDayZero() {
        checks.says("1: today is 0");
        checks.due(1, () -> new WardrobeKeeper().pass(1));
        checks.due(365, () -> new WardrobeKeeper().pass(365));
    }

    private void newObjectHasNoClashes() {
        checks.says("Things: at first none do");
        WardrobeKeeper x = new WardrobeKeeper();
        for (int pair = 0; pair < 64; pair++) {
            int colour = pair / 8;
            int other = pair % 8;
            checks.dueFor(pair, false, () -> x.setClash(colour, other, false));
        }
    }

    private void objectsShareNothing() {
        checks.says("1: No things; today is 0, whatever was done to another object");
        WardrobeKeeper other = Wardrobes.ofThree();
        other.setClash(1, 1, true);
        other.wear(0, 1, 2, 255);
        other.pass(9);
        WardrobeKeeper x = new WardrobeKeeper();
        checks.due(0, x::things);
        checks.due(false, () -> x.setClash(1, 1, false));
        checks.due(1, () -> x.pass(1));
        checks.due(0, () -> x.add(0, 1, 2, 3, 0));
        checks.due(1, () -> x.add(1, 1, 2, 3, 0));
        checks.due(false, () -> x.isTooSoon(0, 1, 255));
        checks.due(3, other::things);
    }

    // ---- promise 2

    private void addOutOfRange(int place, int least, int most) {
        WardrobeKeeper x = new WardrobeKeeper();
        for (int wrong : Checks.outOf(least, most)) {
            int[] v = {0, 0, 0, 1, 0};
            v[place] = wrong;
            checks.dueFor(wrong, Checks.ARGUMENT, () -> x.add(v[0], v[1], v[2], v[3], v[4]));
        }
        checks.due(0, x::things);
        for (int right = least; right <= most; right++) {
            int[] v = {0, 0, 0, 1, 0};
            v[place] = right;
            int number = right - least;
            checks.dueFor(right, number, () -> x.add(v[0], v[1], v[2], v[3], v[4]));
        }
    }

    private void kindOutOfRange() {
        checks.says("2: kind: TOP, BOTTOM or COAT");
        addOutOfRange(0, 0, 2);
    }

    private void colourOutOfRange() {
        checks.says("2: colour: 0 to 7");
        addOutOfRange(1, 0, 7);
    }

    private void warmthOutOfRange() {
        checks.says("2: warmth: 0 to 10");
        addOutOfRange(2, 0, 10);
    }

    private void wearsOutOfRange() {
        checks.says("2: wears: 1 to 9");
        addOutOfRange(3, 1, 9);
    }

    private void careOutOfRange() {
        checks.says("2: care: 0 to 2");
        addOutOfRange(4, 0, 2);
    }

    private void allOutOfRange() {
        checks.says("2: IllegalArgumentException if an argument is out of range, or several are");
        WardrobeKeeper x = new WardrobeKeeper();
        checks.due(Checks.ARGUMENT, () -> x.add(-1, -1, -1, 0, -1));
        checks.due(Checks.ARGUMENT, () -> x.add(3, 8, 11, 10, 3));
        checks.due(0, x::things);
    }

    private void leastAndMostThing() {
        checks.says("2: the least and the most that a thing can be");
        WardrobeKeeper x = Wardrobes.with(new int[] {0, 0, 0, 1, 0}, new int[] {1, 7, 10, 9, 2},
                new int[] {2, 7, 10, 9, 2}, new int[] {1, 0, 0, 1, 0});
        checks.due(1, () -> x.left(0));
        checks.due(9, () -> x.left(1));
        checks.due(0, () -> x.wear(0, 3, NONE, 0));
        checks.due(2, () -> x.load(0, false));
        checks.due(2, () -> x.wash(0, false));
        checks.due(20, () -> x.wear(0, 1, 2, 0));
        checks.due(2, () -> x.wash(2, true));
    }

    private void addedThingIsClean() {
        checks.says("2: Adds a thing, which is clean");
        WardrobeKeeper x = Wardrobes.with(Wardrobes.top(0, 0, 1), Wardrobes.bottom(0, 0, 1),
                Wardrobes.coat(0, 0, 1));
        checks.due(0, () -> x.load(0, false));
        checks.due(0, () -> x.wash(0, false));
        checks.due(true, () -> x.isPossible(0, 1, 2));
    }

    private void numbersFromZeroToEleven() {
        checks.says("Things: numbered from 0; 2: Returns its number");
        WardrobeKeeper x = new WardrobeKeeper();
        for (int thing = 0; thing < 12; thing++) {
            int want = thing;
            checks.dueFor(thing, Checks.INDEX, () -> x.left(want));
            checks.dueFor(thing, want, () -> x.add(want % 3, want % 8, 10 - want % 11, 1 + want % 9, 0));
            checks.dueFor(thing, 1 + want % 9, () -> x.left(want));
        }
    }

    private void twelveAreEverAdded() {
        checks.says("2: IllegalStateException if 12 were added");
        WardrobeKeeper x = Wardrobes.ofSixAndSix(1);
        checks.due(Checks.STATE, () -> x.add(0, 0, 0, 1, 0));
        checks.due(Checks.STATE, () -> x.add(2, 7, 10, 9, 2));
        checks.due(12, x::things);
        checks.due(Checks.INDEX, () -> x.left(12));
        WardrobeKeeper y = new WardrobeKeeper();
        for (int i = 0; i < 11; i++) {
            y.add(0, 0, 0, 1, 0);
        }
        checks.due(11, () -> y.add(0, 0, 0, 1, 0));
        checks.due(Checks.STATE, () -> y.add(0, 0, 0, 1, 0));
    }

    private void twelveWithThingsGivenAway() {
        checks.says("Things: at most 12 are ever added, those given away with them");
        WardrobeKeeper x = Wardrobes.ofSixAndSix(1);
        for (int thing = 11; thing >= 0; thing--) {
            x.giveAway(thing);
        }
        checks.due(Checks.STATE, () -> x.add(0, 0, 0, 1, 0));
        checks.due(0, x::things);
    }

    private void argumentBeforeState() {
        checks.says("2: if several apply, the one that it lists first is thrown");
        WardrobeKeeper x = Wardrobes.ofSixAndSix(1);
        checks.due(Checks.ARGUMENT, () -> x.add(3, 0, 0, 1, 0));
        checks.due(Checks.ARGUMENT, () -> x.add(0, 8, 0, 1, 0));
        checks.due(Checks.ARGUMENT, () -> x.add(0, 0, 11, 1, 0));
        checks.due(Checks.ARGUMENT, () -> x.add(0, 0, 0, 0, 0));
        checks.due(Checks.ARGUMENT, () -> x.add(0, 0, 0, 1, -1));
    }

    // ---- promise 3

    private void giveAwayNoSuchThing() {
        checks.says("3: IndexOutOfBoundsException if there is no such thing");
        WardrobeKeeper few = Wardrobes.ofThree();
        for (int wrong : Checks.outOf(0, 2)) {
            checks.dueFor(wrong, Checks.INDEX, () -> few.giveAway(wrong));
        }
        checks.due(3, few::things);
        WardrobeKeeper full = Wardrobes.ofSixAndSix(1);
        for (int wrong : Checks.outOf(0, 11)) {
            checks.dueFor(wrong, Checks.INDEX, () -> full.giveAway(wrong));
        }
        checks.due(12, full::things);
    }

    private void giveAwayTwice() {
        checks.says("3: IndexOutOfBoundsException if it was given away");
        for (int thing = 0; thing < 12; thing++) {
            int away = thing;
            WardrobeKeeper x = Wardrobes.ofSixAndSix(1);
            checks.dueFor(thing, 11, () -> x.giveAway(away));
            checks.dueFor(thing, Checks.INDEX, () -> x.giveAway(away));
            checks.dueFor(thing, 11, x::things);
        }
    }

    private void giveAwayToTheLast() {
        checks.says("3: Returns how many things are left, 0 after the last");
        WardrobeKeeper x = Wardrobes.ofSixAndSix(1);
        for (int thing = 0; thing < 12; thing++) {
            int away = thing;
            checks.dueFor(thing, 11 - away, () -> x.giveAway(away));
        }
        checks.due(0, x::things);
    }

    private void givenAwayIsNoThingAnywhere() {
        checks.says("Terms: IndexOutOfBoundsException if it was given away");
        for (int thing = 0; thing < 3; thing++) {
            int away = thing;
            WardrobeKeeper x = Wardrobes.ofThree();
            x.giveAway(away);
            checks.dueFor(thing, Checks.INDEX, () -> x.left(away));
            checks.dueFor(thing, Checks.INDEX, () -> x.adds(away, 0));
            checks.dueFor(thing, Checks.INDEX, () -> x.isPossible(0, 1, 2));
            checks.dueFor(thing, Checks.INDEX, () -> x.wear(0, 1, 2, 0));
            if (thing != 2) {
                checks.dueFor(thing, Checks.INDEX, () -> x.isTooSoon(0, 1, 0));
            }
            checks.dueFor(thing, Checks.ARGUMENT, () -> x.isEnough(7, 1, 0));
            checks.dueFor(thing, away == 2 ? 1 : 0, () -> x.outfits(0));
        }
    }

    private void numbersAreNotUsedAgain() {
        checks.says("2: Returns its number, which no thing given away had");
        WardrobeKeeper x = Wardrobes.ofThree();
        x.giveAway(2);
        x.giveAway(0);
        checks.due(3, () -> x.add(0, 0, 0, 1, 0));
        checks.due(Checks.INDEX, () -> x.left(0));
        checks.due(Checks.INDEX, () -> x.left(2));
        checks.due(2, x::things);
    }

    // ---- promise 4

    private void clashColourOutOfRange() {
        checks.says("4: IllegalArgumentException if colour or other is out of range");
        WardrobeKeeper x = new WardrobeKeeper();
        for (int wrong : Checks.outOf(0, 7)) {
            checks.dueFor(wrong, Checks.ARGUMENT, () -> x.setClash(wrong, 0, true));
            checks.dueFor(wrong, Checks.ARGUMENT, () -> x.setClash(7, wrong, true));
            checks.dueFor(wrong, Checks.ARGUMENT, () -> x.setClash(wrong, wrong, false));
        }
        for (int pair = 0; pair < 64; pair++) {
            int colour = pair / 8;
            int other = pair % 8;
            checks.dueFor(pair, false, () -> x.setClash(colour, other, false));
        }
    }

    private void clashTellsWhetherTheyDid() {
        checks.says("4: Returns whether they did");
        WardrobeKeeper x = new WardrobeKeeper();
        checks.due(false, () -> x.setClash(0, 7, false));
        checks.due(false, () -> x.setClash(0, 7, true));
        checks.due(true, () -> x.setClash(0, 7, true));
        checks.due(true, () -> x.setClash(7, 0, false));
        checks.due(false, () -> x.setClash(0, 7, false));
        checks.due(false, () -> x.setClash(7, 0, true));
        checks.due(true, () -> x.setClash(0, 7, false));
        checks.due(false, () -> x.setClash(7, 0, false));
    }

    private void clashOfAColourWithItself() {
        checks.says("4: other: which can be the same; Things: only if that is told");
        for (int same = 0; same < 8; same++) {
            int colour = same;
            WardrobeKeeper x = Wardrobes.with(Wardrobes.top(colour, 0, 9), Wardrobes.bottom(colour, 0, 9),
                    Wardrobes.coat(colour, 0, 9));
            for (int other = 0; other < 8; other++) {
                x.setClash(colour, other, other != colour);
            }
            checks.dueFor(same, true, () -> x.isPossible(0, 1, 2));
            checks.dueFor(same, false, () -> x.setClash(colour, colour, true));
            checks.dueFor(same, false, () -> x.isPossible(0, 1, NONE));
            checks.dueFor(same, true, () -> x.setClash(colour, colour, false));
            checks.dueFor(same, true, () -> x.isPossible(0, 1, 2));
        }
    }

    private void clashOfEachPairAlone() {
        checks.says("4: Tells whether two colours clash, and of no others");
        for (int pair = 0; pair < 64; pair++) {
            int colour = pair / 8;
            int other = pair % 8;
            WardrobeKeeper x = new WardrobeKeeper();
            x.setClash(colour, other, true);
            for (int each = 0; each < 64; each++) {
                int one = each / 8;
                int two = each % 8;
                boolean want = each == pair || one == other && two == colour;
                checks.dueFor(pair, want, () -> x.setClash(one, two, want));
            }
        }
    }

    // ---- promises 5 and 6

    private void thingsFromNoneToTwelve() {
        checks.says("5: the number of things that were not given away");
        WardrobeKeeper x = new WardrobeKeeper();
        for (int number = 0; number < 12; number++) {
            checks.dueFor(number, number, x::things);
            x.add(number % 3, 0, 0, 1, 0);
        }
        for (int number = 12; number > 0; number--) {
            checks.dueFor(number, number, x::things);
            x.giveAway(number - 1);
        }
        checks.due(0, x::things);
    }

    private void leftNoSuchThing() {
        checks.says("6: IndexOutOfBoundsException if there is no such thing");
        WardrobeKeeper few = Wardrobes.ofThree();
        for (int wrong : Checks.outOf(0, 2)) {
            checks.dueFor(wrong, Checks.INDEX, () -> few.left(wrong));
        }
        WardrobeKeeper full = Wardrobes.ofSixAndSix(1);
        for (int wrong : Checks.outOf(0, 11)) {
            checks.dueFor(wrong, Checks.INDEX, () -> full.left(wrong));
        }
        full.giveAway(11);
        checks.due(Checks.INDEX, () -> full.left(11));
    }

    private void leftFromAllToNone() {
        checks.says("Things: clean as long as it has been worn fewer times since its last wash");
        for (int most = 1; most <= 9; most++) {
            int wears = most;
            WardrobeKeeper x = Wardrobes.with(Wardrobes.top(0, 0, wears), Wardrobes.bottom(7, 0, 9));
            for (int worn = 0; worn < wears; worn++) {
                int left = wears - worn;
                checks.dueFor(most, left, () -> x.left(0));
                checks.dueFor(most, true, () -> x.isPossible(0, 1, NONE));
                checks.dueFor(most, 0, () -> x.load(0, false));
                x.wear(0, 1, NONE, 0);
            }
            x.wash(0, true);
            checks.dueFor(most, 0, () -> x.left(0));
            checks.dueFor(most, false, () -> x.isPossible(0, 1, NONE));
            checks.dueFor(most, 1, () -> x.load(0, false));
            x.wash(0, false);
            checks.dueFor(most, wears, () -> x.left(0));
        }
    }
}
