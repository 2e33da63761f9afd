/** Promises 7 to 9, and the terms of outfits: each sentence that names a boundary, by itself. */
public final class OutfitsBoundariesTest {
    private static final int NONE = WardrobeKeeper.NONE;

    private final Checks checks = new Checks();

    public static void main(String[] args) {
        OutfitsBoundariesTest test = new OutfitsBoundariesTest();
        test.possibleNoSuchThing();
        test.possibleOfAnotherKind();
        test.possibleIndexBeforeArgument();
        test.possibleWithoutACoat();
        test.possibleByEachPairOfColours();
        test.possibleByEachCleanThing();
        test.possibleThoughTooSoon();
        test.tooSoonNoSuchThing();
        test.tooSoonOfAnotherKind();
        test.tooSoonPeopleOutOfRange();
        test.tooSoonIndexBeforeArgument();
        test.tooSoonForEachPersonAlone();
        test.tooSoonIfOneOfThemSawIt();
        test.tooSoonAmongNobody();
        test.tooSoonLessThanSevenDays();
        test.tooSoonWhicheverCoat();
        test.tooSoonForTheSameTopWithTheSameBottom();
        test.tooSoonCountsFromTheLastTime();
        test.tooSoonAtTheEndOfDays();
        test.tooSoonWhateverIsPossible();
        test.tooSoonForAllPairsAtOnce();
        test.wearNoSuchThing();
        test.wearOfAnotherKind();
        test.wearPeopleOutOfRange();
        test.wearInTheOrderOfExceptions();
        test.wearNotPossible();
        test.wearTooSoon();
        test.wearUntilNotClean();
        test.wearTellsWarmth();
        test.wearWearsItsThingsAlone();
        test.checks.end("OutfitsBoundariesTest");
    }

    /** 0, 3: tops; 1, 4: bottoms; 2, 5: coats. */
    private static WardrobeKeeper ofTwoOfEach() {
        return Wardrobes.with(Wardrobes.top(0, 1, 9), Wardrobes.bottom(0, 2, 9), Wardrobes.coat(0, 3, 9),
                Wardrobes.top(0, 1, 9), Wardrobes.bottom(0, 2, 9), Wardrobes.coat(0, 3, 9));
    }

    // ---- promise 7

    private void possibleNoSuchThing() {
        checks.says("7: IndexOutOfBoundsException if there is no such thing");
        WardrobeKeeper x = Wardrobes.ofThree();
        for (int wrong : Checks.outOf(0, 2)) {
            checks.dueFor(wrong, Checks.INDEX, () -> x.isPossible(wrong, 1, 2));
            checks.dueFor(wrong, Checks.INDEX, () -> x.isPossible(0, wrong, NONE));
            if (wrong != NONE) {
                checks.dueFor(wrong, Checks.INDEX, () -> x.isPossible(0, 1, wrong));
            }
        }
        WardrobeKeeper full = Wardrobes.ofFourOfEach();
        for (int wrong : Checks.outOf(NONE, 11)) {
            checks.dueFor(wrong, Checks.INDEX, () -> full.isPossible(wrong, 4, 8));
            checks.dueFor(wrong, Checks.INDEX, () -> full.isPossible(0, wrong, 8));
            checks.dueFor(wrong, Checks.INDEX, () -> full.isPossible(0, 4, wrong));
        }
    }

    private void possibleOfAnotherKind() {
        checks.says("7: IllegalArgumentException if top, bottom or coat is of another kind");
        WardrobeKeeper x = Wardrobes.ofThree();
        for (int thing = 0; thing < 3; thing++) {
            int other = thing;
            checks.dueFor(thing, other == 0 ? true : Checks.ARGUMENT, () -> x.isPossible(other, 1, NONE));
            checks.dueFor(thing, other == 1 ? true : Checks.ARGUMENT, () -> x.isPossible(0, other, NONE));
            checks.dueFor(thing, other == 2 ? true : Checks.ARGUMENT, () -> x.isPossible(0, 1, other));
        }
    }

    private void possibleIndexBeforeArgument() {
        checks.says("7: if several apply, the one that it lists first is thrown");
        WardrobeKeeper x = Wardrobes.ofThree();
        checks.due(Checks.INDEX, () -> x.isPossible(1, 3, NONE));
        checks.due(Checks.INDEX, () -> x.isPossible(3, 0, NONE));
        checks.due(Checks.INDEX, () -> x.isPossible(1, 0, -2));
        checks.due(Checks.INDEX, () -> x.isPossible(NONE, 1, 0));
    }

    private void possibleWithoutACoat() {
        checks.says("7: coat: a COAT, or NONE");
        WardrobeKeeper x = Wardrobes.with(Wardrobes.top(0, 0, 1), Wardrobes.bottom(0, 0, 1));
        checks.due(true, () -> x.isPossible(0, 1, NONE));
        checks.due(Checks.INDEX, () -> x.isPossible(0, 1, -2));
        checks.due(Checks.INDEX, () -> x.isPossible(0, 1, 2));
        WardrobeKeeper y = Wardrobes.with(Wardrobes.coat(0, 0, 1), Wardrobes.top(0, 0, 1),
                Wardrobes.bottom(0, 0, 1));
        checks.due(true, () -> y.isPossible(1, 2, 0));
        checks.due(true, () -> y.isPossible(1, 2, NONE));
    }

    private void possibleByEachPairOfColours() {
        checks.says("Outfits: possible, if no two of its things have colours that clash");
        WardrobeKeeper x = Wardrobes.with(Wardrobes.top(0, 0, 1), Wardrobes.bottom(3, 0, 1),
                Wardrobes.coat(7, 0, 1));
        for (int pair = 0; pair < 64; pair++) {
            int colour = pair / 8;
            int other = pair % 8;
            int both = 1 << colour | 1 << other;
            boolean isWithin = colour != other && (both & ~(1 << 0 | 1 << 3 | 1 << 7)) == 0;
            boolean areTopAndBottom = both == (1 << 0 | 1 << 3);
            x.setClash(colour, other, true);
            checks.dueFor(pair, !isWithin, () -> x.isPossible(0, 1, 2));
            checks.dueFor(pair, !areTopAndBottom, () -> x.isPossible(0, 1, NONE));
            x.setClash(other, colour, false);
        }
    }

    private void possibleByEachCleanThing() {
        checks.says("Outfits: possible, if all of them are clean");
        for (int once = 0; once < 3; once++) {
            WardrobeKeeper x = Wardrobes.with(Wardrobes.top(0, 0, once == 0 ? 1 : 2),
                    Wardrobes.bottom(0, 0, once == 1 ? 1 : 2), Wardrobes.coat(0, 0, once == 2 ? 1 : 2));
            checks.dueFor(once, true, () -> x.isPossible(0, 1, 2));
            x.wear(0, 1, 2, 0);
            checks.dueFor(once, false, () -> x.isPossible(0, 1, 2));
            checks.dueFor(once, once == 2, () -> x.isPossible(0, 1, NONE));
            x.wash(0, false);
            checks.dueFor(once, true, () -> x.isPossible(0, 1, 2));
        }
    }

    private void possibleThoughTooSoon() {
        checks.says("Outfits: possible by colours and clean things, whoever saw it");
        WardrobeKeeper x = Wardrobes.ofThree();
        x.wear(0, 1, 2, 255);
        checks.due(true, () -> x.isTooSoon(0, 1, 255));
        checks.due(true, () -> x.isPossible(0, 1, 2));
        checks.due(2, () -> x.outfits(0));
    }

    // ---- promise 8

    private void tooSoonNoSuchThing() {
        checks.says("8: IndexOutOfBoundsException if there is no such thing");
        WardrobeKeeper x = Wardrobes.ofThree();
        for (int wrong : Checks.outOf(0, 2)) {
            checks.dueFor(wrong, Checks.INDEX, () -> x.isTooSoon(wrong, 1, 0));
            checks.dueFor(wrong, Checks.INDEX, () -> x.isTooSoon(0, wrong, 255));
        }
        WardrobeKeeper full = Wardrobes.ofFourOfEach();
        for (int wrong : Checks.outOf(0, 11)) {
            checks.dueFor(wrong, Checks.INDEX, () -> full.isTooSoon(wrong, 4, 1));
            checks.dueFor(wrong, Checks.INDEX, () -> full.isTooSoon(0, wrong, 1));
        }
    }

    private void tooSoonOfAnotherKind() {
        checks.says("8: IllegalArgumentException if top or bottom is of another kind");
        WardrobeKeeper x = Wardrobes.ofThree();
        for (int thing = 0; thing < 3; thing++) {
            int other = thing;
            checks.dueFor(thing, other == 0 ? false : Checks.ARGUMENT, () -> x.isTooSoon(other, 1, 1));
            checks.dueFor(thing, other == 1 ? false : Checks.ARGUMENT, () -> x.isTooSoon(0, other, 1));
        }
    }

    private void tooSoonPeopleOutOfRange() {
        checks.says("8: people: 0 to 255");
        WardrobeKeeper x = Wardrobes.ofThree();
        for (int wrong : Checks.outOf(0, 255)) {
            checks.dueFor(wrong, Checks.ARGUMENT, () -> x.isTooSoon(0, 1, wrong));
        }
        for (int people = 0; people <= 255; people++) {
            int right = people;
            checks.dueFor(people, false, () -> x.isTooSoon(0, 1, right));
        }
    }

    private void tooSoonIndexBeforeArgument() {
        checks.says("8: if several apply, the one that it lists first is thrown");
        WardrobeKeeper x = Wardrobes.ofThree();
        checks.due(Checks.INDEX, () -> x.isTooSoon(3, 0, 256));
        checks.due(Checks.INDEX, () -> x.isTooSoon(1, 3, 1));
        checks.due(Checks.INDEX, () -> x.isTooSoon(0, NONE, -1));
    }

    private void tooSoonForEachPersonAlone() {
        checks.says("8: bit p stands for the person p");
        for (int person = 0; person < 8; person++) {
            WardrobeKeeper x = Wardrobes.ofThree();
            x.wear(0, 1, NONE, 1 << person);
            for (int each = 0; each < 8; each++) {
                int asked = each;
                checks.dueFor(person, each == person, () -> x.isTooSoon(0, 1, 1 << asked));
                checks.dueFor(person, each != person, () -> x.isTooSoon(0, 1, 255 - (1 << asked)));
            }
        }
    }

    private void tooSoonIfOneOfThemSawIt() {
        checks.says("Outfits: too soon, if one of them saw it");
        WardrobeKeeper x = Wardrobes.ofThree();
        x.wear(0, 1, NONE, 0b10010010);
        for (int people = 0; people <= 255; people++) {
            int asked = people;
            checks.dueFor(people, (people & 0b10010010) != 0, () -> x.isTooSoon(0, 1, asked));
        }
    }

    private void tooSoonAmongNobody() {
        checks.says("8: people: 0, of whom none saw anything");
        WardrobeKeeper x = Wardrobes.ofThree();
        x.wear(0, 1, NONE, 255);
        checks.due(false, () -> x.isTooSoon(0, 1, 0));
        WardrobeKeeper y = Wardrobes.ofThree();
        y.wear(0, 1, NONE, 0);
        checks.due(false, () -> y.isTooSoon(0, 1, 255));
    }

    private void tooSoonLessThanSevenDays() {
        checks.says("Outfits: less than 7 days ago, today included");
        for (int first = 0; first <= 365; first += 73) {
            for (int days = 0; days <= 10; days++) {
                WardrobeKeeper x = Wardrobes.ofThree();
                Wardrobes.passUntil(x, 0, first);
                x.wear(0, 1, NONE, 1);
                Wardrobes.passUntil(x, first, first + days);
                checks.dueFor(days, days < 7, () -> x.isTooSoon(0, 1, 1));
            }
        }
        WardrobeKeeper y = Wardrobes.ofThree();
        y.wear(0, 1, NONE, 255);
        for (int day = 1; day <= 8; day++) {
            y.pass(1);
            checks.dueFor(day, day < 7, () -> y.isTooSoon(0, 1, 255));
        }
    }

    private void tooSoonWhicheverCoat() {
        checks.says("Outfits: the same top with the same bottom, whichever coat");
        int[] coats = {2, 5, NONE};
        for (int worn : coats) {
            WardrobeKeeper x = ofTwoOfEach();
            x.wear(0, 1, worn, 1);
            checks.dueFor(worn, true, () -> x.isTooSoon(0, 1, 1));
            for (int coat : coats) {
                checks.dueFor(worn, Checks.STATE, () -> x.wear(0, 1, coat, 1));
            }
            checks.dueFor(worn, 400, () -> x.outfitFor(0, 1));
        }
    }

    private void tooSoonForTheSameTopWithTheSameBottom() {
        checks.says("Outfits: the same top with the same bottom, and no other pair");
        WardrobeKeeper x = ofTwoOfEach();
        x.wear(0, 1, 2, 255);
        checks.due(true, () -> x.isTooSoon(0, 1, 255));
        checks.due(false, () -> x.isTooSoon(0, 4, 255));
        checks.due(false, () -> x.isTooSoon(3, 1, 255));
        checks.due(false, () -> x.isTooSoon(3, 4, 255));
    }

    private void tooSoonCountsFromTheLastTime() {
        checks.says("Outfits: saw it less than 7 days ago, though the first time is longer ago");
        WardrobeKeeper x = ofTwoOfEach();
        x.wear(0, 1, NONE, 3);
        x.pass(7);
        checks.due(3, () -> x.wear(0, 1, NONE, 1));
        checks.due(false, () -> x.isTooSoon(0, 1, 2));
        x.pass(6);
        checks.due(true, () -> x.isTooSoon(0, 1, 1));
        checks.due(false, () -> x.isTooSoon(0, 1, 2));
        x.pass(1);
        checks.due(false, () -> x.isTooSoon(0, 1, 3));
    }

    private void tooSoonAtTheEndOfDays() {
        checks.says("Outfits: less than 7 days ago, up to day 10000");
        for (int days = 0; days <= 8; days++) {
            WardrobeKeeper x = Wardrobes.ofThree();
            Wardrobes.passUntil(x, 0, 10000 - days);
            x.wear(0, 1, NONE, 128);
            Wardrobes.passUntil(x, 10000 - days, 10000);
            checks.dueFor(days, days < 7, () -> x.isTooSoon(0, 1, 255));
        }
    }

    private void tooSoonWhateverIsPossible() {
        checks.says("8: Tells whether it is too soon, also for an outfit that is not possible");
        WardrobeKeeper x = Wardrobes.with(Wardrobes.top(0, 0, 1), Wardrobes.bottom(1, 0, 1));
        x.wear(0, 1, NONE, 1);
        x.setClash(0, 1, true);
        checks.due(true, () -> x.isTooSoon(0, 1, 1));
        checks.due(false, () -> x.isTooSoon(0, 1, 2));
    }

    private void tooSoonForAllPairsAtOnce() {
        checks.says("Outfits: too soon for each of 36 pairs that all people saw on one day");
        WardrobeKeeper x = Wardrobes.ofSixAndSix(9);
        for (int pair = 0; pair < 36; pair++) {
            int top = pair / 6 * 2;
            int bottom = pair % 6 * 2 + 1;
            checks.dueFor(pair, 2, () -> x.wear(top, bottom, NONE, 255));
        }
        for (int day = 6; day <= 7; day++) {
            x.pass(day == 6 ? 6 : 1);
            for (int pair = 0; pair < 36; pair++) {
                int top = pair / 6 * 2;
                int bottom = pair % 6 * 2 + 1;
                checks.dueFor(pair, day == 6, () -> x.isTooSoon(top, bottom, 1));
                checks.dueFor(pair, day == 6, () -> x.isTooSoon(top, bottom, 128));
            }
        }
    }

    // ---- promise 9

    private void wearNoSuchThing() {
        checks.says("9: IndexOutOfBoundsException if there is no such thing");
        WardrobeKeeper x = Wardrobes.ofThree();
        for (int wrong : Checks.outOf(0, 2)) {
            checks.dueFor(wrong, Checks.INDEX, () -> x.wear(wrong, 1, 2, 0));
            checks.dueFor(wrong, Checks.INDEX, () -> x.wear(0, wrong, NONE, 0));
            if (wrong != NONE) {
                checks.dueFor(wrong, Checks.INDEX, () -> x.wear(0, 1, wrong, 0));
            }
        }
        WardrobeKeeper full = Wardrobes.ofFourOfEach();
        for (int wrong : Checks.outOf(NONE, 11)) {
            checks.dueFor(wrong, Checks.INDEX, () -> full.wear(wrong, 4, 8, 0));
            checks.dueFor(wrong, Checks.INDEX, () -> full.wear(0, wrong, 8, 0));
            checks.dueFor(wrong, Checks.INDEX, () -> full.wear(0, 4, wrong, 0));
        }
    }

    private void wearOfAnotherKind() {
        checks.says("9: IllegalArgumentException if top, bottom or coat is of another kind");
        WardrobeKeeper x = ofTwoOfEach();
        for (int thing = 0; thing < 6; thing++) {
            int other = thing;
            int kind = thing % 3;
            checks.dueFor(thing, kind == 0 ? 3 : Checks.ARGUMENT, () -> x.wear(other, 1, NONE, 0));
            checks.dueFor(thing, kind == 1 ? 3 : Checks.ARGUMENT, () -> x.wear(0, other, NONE, 0));
            checks.dueFor(thing, kind == 2 ? 6 : Checks.ARGUMENT, () -> x.wear(0, 1, other, 0));
        }
    }

    private void wearPeopleOutOfRange() {
        checks.says("9: people: 0 to 255");
        WardrobeKeeper x = Wardrobes.ofThree();
        for (int wrong : Checks.outOf(0, 255)) {
            checks.dueFor(wrong, Checks.ARGUMENT, () -> x.wear(0, 1, NONE, wrong));
        }
        checks.due(5, () -> x.wear(0, 1, NONE, 0));
        checks.due(5, () -> x.wear(0, 1, NONE, 255));
        checks.due(1, () -> x.left(0));
    }

    private void wearInTheOrderOfExceptions() {
        checks.says("9: if several apply, the one that it lists first is thrown");
        WardrobeKeeper x = Wardrobes.with(Wardrobes.top(0, 0, 1), Wardrobes.bottom(1, 0, 9),
                Wardrobes.coat(0, 0, 9));
        x.wear(0, 1, NONE, 255);
        x.setClash(0, 1, true);
        checks.due(Checks.INDEX, () -> x.wear(1, 3, 2, 256));
        checks.due(Checks.INDEX, () -> x.wear(3, 1, 1, -1));
        checks.due(Checks.INDEX, () -> x.wear(0, 0, 3, 256));
        checks.due(Checks.INDEX, () -> x.wear(0, 1, -2, 255));
        checks.due(Checks.ARGUMENT, () -> x.wear(0, 1, NONE, 256));
        checks.due(Checks.ARGUMENT, () -> x.wear(0, 1, 2, -1));
        checks.due(Checks.ARGUMENT, () -> x.wear(1, 1, NONE, 255));
        checks.due(Checks.ARGUMENT, () -> x.wear(0, 2, NONE, 255));
        checks.due(Checks.ARGUMENT, () -> x.wear(0, 1, 0, 255));
        checks.due(Checks.STATE, () -> x.wear(0, 1, 2, 255));
    }

    private void wearNotPossible() {
        checks.says("9: IllegalStateException if it is not possible");
        int[][] pairs = {{1, 2}, {1, 5}, {2, 5}};
        for (int[] pair : pairs) {
            WardrobeKeeper x = Wardrobes.ofThree();
            x.setClash(pair[0], pair[1], true);
            checks.dueFor(pair[1], Checks.STATE, () -> x.wear(0, 1, 2, 0));
            checks.dueFor(pair[1], pair[1] == 5 ? 5 : Checks.STATE, () -> x.wear(0, 1, NONE, 0));
        }
        for (int once = 0; once < 3; once++) {
            WardrobeKeeper x = Wardrobes.with(Wardrobes.top(0, 0, once == 0 ? 1 : 9),
                    Wardrobes.bottom(0, 0, once == 1 ? 1 : 9), Wardrobes.coat(0, 0, once == 2 ? 1 : 9));
            checks.dueFor(once, 0, () -> x.wear(0, 1, 2, 0));
            checks.dueFor(once, Checks.STATE, () -> x.wear(0, 1, 2, 0));
            checks.dueFor(once, once == 2 ? 0 : Checks.STATE, () -> x.wear(0, 1, NONE, 0));
        }
    }

    private void wearTooSoon() {
        checks.says("9: IllegalStateException if it is too soon");
        WardrobeKeeper x = ofTwoOfEach();
        checks.due(3, () -> x.wear(0, 1, NONE, 1));
        checks.due(Checks.STATE, () -> x.wear(0, 1, NONE, 1));
        checks.due(Checks.STATE, () -> x.wear(0, 1, 2, 255));
        checks.due(3, () -> x.wear(0, 1, NONE, 254));
        checks.due(3, () -> x.wear(0, 1, NONE, 0));
        x.pass(6);
        checks.due(Checks.STATE, () -> x.wear(0, 1, NONE, 128));
        x.pass(1);
        checks.due(3, () -> x.wear(0, 1, NONE, 255));
        checks.due(Checks.STATE, () -> x.wear(0, 1, NONE, 255));
    }

    private void wearUntilNotClean() {
        checks.says("9: worn as often as the thing can be, and not more");
        for (int most = 1; most <= 9; most++) {
            int wears = most;
            WardrobeKeeper x = Wardrobes.with(Wardrobes.top(0, 1, wears), Wardrobes.bottom(0, 1, 9));
            for (int worn = 0; worn < wears; worn++) {
                checks.dueFor(most, 2, () -> x.wear(0, 1, NONE, 0));
            }
            checks.dueFor(most, Checks.STATE, () -> x.wear(0, 1, NONE, 0));
            checks.dueFor(most, 9 - wears, () -> x.left(1));
        }
    }

    private void wearTellsWarmth() {
        checks.says("9: Returns its warmth, 0 to 30");
        WardrobeKeeper x = Wardrobes.with(Wardrobes.top(0, 0, 9), Wardrobes.bottom(0, 0, 9),
                Wardrobes.coat(0, 0, 9), Wardrobes.top(0, 10, 9), Wardrobes.bottom(0, 10, 9),
                Wardrobes.coat(0, 10, 9));
        checks.due(0, () -> x.wear(0, 1, NONE, 0));
        checks.due(0, () -> x.wear(0, 1, 2, 0));
        checks.due(10, () -> x.wear(3, 1, 2, 0));
        checks.due(10, () -> x.wear(0, 4, NONE, 0));
        checks.due(10, () -> x.wear(0, 1, 5, 0));
        checks.due(20, () -> x.wear(3, 4, NONE, 0));
        checks.due(20, () -> x.wear(3, 4, 2, 0));
        checks.due(30, () -> x.wear(3, 4, 5, 0));
    }

    private void wearWearsItsThingsAlone() {
        checks.says("9: Wears an outfit, each thing of it once, and no other thing");
        WardrobeKeeper x = ofTwoOfEach();
        x.wear(3, 1, NONE, 0);
        x.wear(3, 1, 5, 0);
        int[] want = {9, 7, 9, 7, 9, 8};
        for (int thing = 0; thing < 6; thing++) {
            int each = thing;
            checks.dueFor(thing, want[thing], () -> x.left(each));
        }
    }
}
