/** Promises 10 to 13: each sentence that names a boundary, by itself. */
public final class ChoicesBoundariesTest {
    private static final int NONE = WardrobeKeeper.NONE;

    private final Checks checks = new Checks();

    public static void main(String[] args) {
        ChoicesBoundariesTest test = new ChoicesBoundariesTest();
        test.outfitsWarmthOutOfRange();
        test.outfitsOfNothing();
        test.outfitsWithALeastWarmth();
        test.outfitsWithCoatsAndWithout();
        test.outfitsOfAFullWardrobe();
        test.outfitsOfTheThingZero();
        test.outfitsThatArePossibleAlone();
        test.outfitsThoughTooSoon();
        test.addsNoSuchThing();
        test.addsWarmthOutOfRange();
        test.addsIndexBeforeArgument();
        test.addsOfAFullWardrobe();
        test.addsWithALeastWarmth();
        test.addsNothing();
        test.missingTopOfNothing();
        test.missingTopOfSeveralTheLowest();
        test.missingTopUpToTheLastColour();
        test.missingTopThatClashesWithItself();
        test.missingTopWithoutCoats();
        test.missingTopIfItWasCleanAndWarm();
        test.missingTopOfPossibleOutfits();
        test.outfitForWarmthOutOfRange();
        test.outfitForPeopleOutOfRange();
        test.outfitForNone();
        test.outfitForALeastWarmth();
        test.outfitForTheLeastWarmth();
        test.outfitForTheLowestTop();
        test.outfitForTheLowestBottom();
        test.outfitForWithoutACoat();
        test.outfitForTheLowestCoat();
        test.outfitForTheHighestNumbers();
        test.outfitForNotTooSoon();
        test.outfitForPossibleOnes();
        test.checks.end("ChoicesBoundariesTest");
    }

    // ---- promise 10

    private void outfitsWarmthOutOfRange() {
        checks.says("10: warmth: 0 to 30");
        WardrobeKeeper x = Wardrobes.ofFourOfEach();
        for (int wrong : Checks.outOf(0, 30)) {
            checks.dueFor(wrong, Checks.ARGUMENT, () -> x.outfits(wrong));
            checks.dueFor(wrong, Checks.ARGUMENT, () -> new WardrobeKeeper().outfits(wrong));
        }
        for (int warmth = 0; warmth <= 30; warmth++) {
            int least = warmth;
            checks.dueFor(warmth, warmth <= 20 ? 80 : 64, () -> x.outfits(least));
        }
    }

    private void outfitsOfNothing() {
        checks.says("10: none without a top, or without a bottom");
        checks.due(0, () -> new WardrobeKeeper().outfits(0));
        checks.due(0, () -> Wardrobes.with(Wardrobes.top(0, 0, 1)).outfits(0));
        checks.due(0, () -> Wardrobes.with(Wardrobes.bottom(0, 0, 1), Wardrobes.coat(0, 0, 1)).outfits(0));
        checks.due(0, () -> Wardrobes.with(Wardrobes.top(0, 0, 1), Wardrobes.coat(0, 0, 1)).outfits(0));
        checks.due(1, () -> Wardrobes.with(Wardrobes.top(0, 0, 1), Wardrobes.bottom(0, 0, 1)).outfits(0));
    }

    private void outfitsWithALeastWarmth() {
        checks.says("10: with a least warmth, which they may have just so");
        for (int together = 0; together <= 20; together++) {
            int sum = together;
            WardrobeKeeper x = Wardrobes.with(Wardrobes.top(0, sum / 2, 1),
                    Wardrobes.bottom(0, sum - sum / 2, 1), Wardrobes.coat(0, 10, 1));
            checks.dueFor(sum, 2, () -> x.outfits(sum));
            checks.dueFor(sum, 1, () -> x.outfits(sum + 1));
            checks.dueFor(sum, 1, () -> x.outfits(sum + 10));
            checks.dueFor(sum, sum == 20 ? Checks.ARGUMENT : 0, () -> x.outfits(sum + 11));
        }
    }

    private void outfitsWithCoatsAndWithout() {
        checks.says("10: with coats and without");
        WardrobeKeeper x = Wardrobes.with(Wardrobes.top(0, 0, 1), Wardrobes.bottom(0, 0, 1));
        for (int coats = 0; coats <= 10; coats++) {
            checks.dueFor(coats, coats + 1, () -> x.outfits(0));
            if (coats < 10) {
                x.add(2, 0, 0, 1, 0);
            }
        }
    }

    private void outfitsOfAFullWardrobe() {
        checks.says("10: the number of possible outfits of twelve things");
        checks.due(80, () -> Wardrobes.ofFourOfEach().outfits(0));
        checks.due(36, () -> Wardrobes.ofSixAndSix(1).outfits(0));
    }

    private void outfitsOfTheThingZero() {
        checks.says("Things: numbered from 0, whichever kind the first is");
        int[][] kinds = {{0, 1, 2}, {1, 2, 0}, {2, 0, 1}, {0, 2, 1}, {1, 0, 2}, {2, 1, 0}};
        for (int[] order : kinds) {
            WardrobeKeeper x = new WardrobeKeeper();
            int[] number = new int[3];
            for (int kind : order) {
                number[kind] = x.add(kind, 0, 1, 1, 0);
            }
            checks.dueFor(order[0], 2, () -> x.outfits(0));
            checks.dueFor(order[0], 1, () -> x.outfits(3));
            checks.dueFor(order[0], 2, () -> x.adds(number[0], 0));
            checks.dueFor(order[0], 2, () -> x.adds(number[1], 0));
            checks.dueFor(order[0], 1, () -> x.adds(number[2], 0));
            checks.dueFor(order[0], 10000 * number[0] + 100 * number[1], () -> x.outfitFor(0, 0));
        }
    }

    private void outfitsThatArePossibleAlone() {
        checks.says("10: the possible outfits, by colours and by clean things");
        WardrobeKeeper x = Wardrobes.with(Wardrobes.top(1, 0, 1), Wardrobes.bottom(2, 0, 9),
                Wardrobes.coat(3, 0, 1), Wardrobes.top(4, 0, 9));
        checks.due(4, () -> x.outfits(0));
        x.setClash(1, 3, true);
        checks.due(3, () -> x.outfits(0));
        x.setClash(2, 3, true);
        checks.due(2, () -> x.outfits(0));
        x.setClash(2, 3, false);
        x.wear(3, 1, 2, 0);
        checks.due(2, () -> x.outfits(0));
        x.wear(0, 1, NONE, 0);
        checks.due(1, () -> x.outfits(0));
        x.setClash(4, 2, true);
        checks.due(0, () -> x.outfits(0));
    }

    private void outfitsThoughTooSoon() {
        checks.says("10: possible outfits, too soon or not");
        WardrobeKeeper x = Wardrobes.ofThree();
        x.wear(0, 1, 2, 255);
        checks.due(2, () -> x.outfits(0));
    }

    // ---- promise 11

    private void addsNoSuchThing() {
        checks.says("11: IndexOutOfBoundsException if there is no such thing");
        WardrobeKeeper few = Wardrobes.ofThree();
        for (int wrong : Checks.outOf(0, 2)) {
            checks.dueFor(wrong, Checks.INDEX, () -> few.adds(wrong, 0));
        }
        WardrobeKeeper full = Wardrobes.ofFourOfEach();
        for (int wrong : Checks.outOf(0, 11)) {
            checks.dueFor(wrong, Checks.INDEX, () -> full.adds(wrong, 0));
        }
    }

    private void addsWarmthOutOfRange() {
        checks.says("11: warmth: 0 to 30");
        WardrobeKeeper x = Wardrobes.ofFourOfEach();
        for (int wrong : Checks.outOf(0, 30)) {
            checks.dueFor(wrong, Checks.ARGUMENT, () -> x.adds(0, wrong));
        }
        for (int warmth = 0; warmth <= 30; warmth++) {
            int least = warmth;
            checks.dueFor(warmth, warmth <= 20 ? 20 : 16, () -> x.adds(0, least));
            checks.dueFor(warmth, warmth <= 20 ? 20 : 16, () -> x.adds(7, least));
            checks.dueFor(warmth, 16, () -> x.adds(11, least));
        }
    }

    private void addsIndexBeforeArgument() {
        checks.says("11: if several apply, the one that it lists first is thrown");
        WardrobeKeeper x = Wardrobes.ofThree();
        checks.due(Checks.INDEX, () -> x.adds(3, 31));
        checks.due(Checks.INDEX, () -> x.adds(NONE, -1));
        checks.due(Checks.INDEX, () -> new WardrobeKeeper().adds(0, 31));
    }

    private void addsOfAFullWardrobe() {
        checks.says("11: how many of these outfits have a thing, of twelve");
        WardrobeKeeper x = Wardrobes.ofFourOfEach();
        for (int thing = 0; thing < 12; thing++) {
            int each = thing;
            checks.dueFor(thing, thing < 8 ? 20 : 16, () -> x.adds(each, 0));
        }
    }

    private void addsWithALeastWarmth() {
        checks.says("11: these outfits, with a least warmth, which they may have just so");
        WardrobeKeeper x = Wardrobes.ofThree();
        for (int warmth = 0; warmth <= 13; warmth++) {
            int least = warmth;
            int want = warmth <= 5 ? 2 : warmth <= 12 ? 1 : 0;
            checks.dueFor(warmth, want, () -> x.adds(0, least));
            checks.dueFor(warmth, want, () -> x.adds(1, least));
            checks.dueFor(warmth, warmth <= 12 ? 1 : 0, () -> x.adds(2, least));
        }
    }

    private void addsNothing() {
        checks.says("11: none if the thing is in no possible outfit");
        WardrobeKeeper x = Wardrobes.with(Wardrobes.top(0, 0, 1), Wardrobes.bottom(0, 0, 9),
                Wardrobes.coat(0, 0, 1), Wardrobes.top(1, 0, 9), Wardrobes.coat(2, 0, 9));
        x.wear(0, 1, 2, 0);
        checks.due(0, () -> x.adds(0, 0));
        checks.due(2, () -> x.adds(1, 0));
        checks.due(0, () -> x.adds(2, 0));
        checks.due(2, () -> x.adds(3, 0));
        checks.due(1, () -> x.adds(4, 0));
        x.setClash(0, 2, true);
        checks.due(0, () -> x.adds(4, 0));
        checks.due(1, () -> x.adds(3, 0));
        checks.due(0, () -> Wardrobes.with(Wardrobes.top(0, 0, 1)).adds(0, 0));
        checks.due(0, () -> Wardrobes.with(Wardrobes.coat(0, 0, 1)).adds(0, 0));
    }

    // ---- promise 12

    private void missingTopOfNothing() {
        checks.says("12: of several the lowest, also where no colour brings any");
        checks.due(0, () -> new WardrobeKeeper().missingTop());
        checks.due(0, () -> Wardrobes.with(Wardrobes.top(7, 0, 1), Wardrobes.coat(7, 0, 1)).missingTop());
        WardrobeKeeper x = Wardrobes.with(Wardrobes.bottom(5, 0, 1));
        for (int colour = 0; colour < 8; colour++) {
            x.setClash(colour, 5, true);
        }
        checks.due(0, x::missingTop);
    }

    private void missingTopOfSeveralTheLowest() {
        checks.says("12: of several the lowest");
        for (int lowest = 0; lowest < 8; lowest++) {
            WardrobeKeeper x = Wardrobes.with(Wardrobes.bottom(7, 0, 1), Wardrobes.bottom(6, 0, 1));
            for (int colour = 0; colour < lowest; colour++) {
                x.setClash(colour, colour % 2 == 0 ? 6 : 7, true);
            }
            checks.dueFor(lowest, lowest, x::missingTop);
        }
    }

    private void missingTopUpToTheLastColour() {
        checks.says("12: the colour that would bring most, up to 7");
        for (int best = 0; best < 8; best++) {
            int bottomColour = 7 - best;
            WardrobeKeeper x = Wardrobes.with(Wardrobes.bottom(bottomColour, 0, 1));
            for (int colour = 0; colour < 8; colour++) {
                x.setClash(colour, bottomColour, colour != best);
            }
            checks.dueFor(best, best, x::missingTop);
        }
    }

    private void missingTopThatClashesWithItself() {
        checks.says("12: a colour that clashes with itself, for bottoms of its own");
        WardrobeKeeper x = Wardrobes.with(Wardrobes.bottom(0, 0, 1), Wardrobes.bottom(1, 0, 1));
        checks.due(0, x::missingTop);
        x.setClash(0, 0, true);
        checks.due(1, x::missingTop);
        x.setClash(1, 1, true);
        checks.due(2, x::missingTop);
        WardrobeKeeper y = Wardrobes.with(Wardrobes.bottom(1, 0, 1));
        y.setClash(0, 0, true);
        checks.due(0, y::missingTop);
    }

    private void missingTopWithoutCoats() {
        checks.says("12: outfits without coats");
        WardrobeKeeper x = Wardrobes.with(Wardrobes.bottom(1, 0, 1), Wardrobes.coat(2, 0, 1),
                Wardrobes.coat(3, 0, 1));
        x.setClash(0, 2, true);
        x.setClash(0, 3, true);
        checks.due(0, x::missingTop);
        x.setClash(0, 1, true);
        checks.due(1, x::missingTop);
    }

    private void missingTopIfItWasCleanAndWarm() {
        checks.says("12: if it was clean and warm enough for each, whatever tops there are");
        WardrobeKeeper x = Wardrobes.with(Wardrobes.bottom(4, 0, 2), Wardrobes.top(0, 0, 1));
        x.wear(1, 0, NONE, 255);
        checks.due(0, x::missingTop);
        x.giveAway(1);
        checks.due(0, x::missingTop);
        x.setClash(0, 4, true);
        checks.due(1, x::missingTop);
    }

    private void missingTopOfPossibleOutfits() {
        checks.says("12: most possible outfits, of which each bottom is clean, and there");
        WardrobeKeeper x = Wardrobes.with(Wardrobes.bottom(1, 0, 1), Wardrobes.bottom(1, 0, 1),
                Wardrobes.bottom(2, 0, 2), Wardrobes.top(7, 0, 9));
        x.setClash(0, 1, true);
        for (int colour = 1; colour < 8; colour++) {
            x.setClash(colour, 2, true);
        }
        checks.due(1, x::missingTop);
        x.wear(3, 0, NONE, 0);
        checks.due(0, x::missingTop);
        x.wash(0, false);
        checks.due(1, x::missingTop);
        x.giveAway(1);
        checks.due(0, x::missingTop);
        x.giveAway(2);
        checks.due(1, x::missingTop);
    }

    // ---- promise 13

    private void outfitForWarmthOutOfRange() {
        checks.says("13: warmth: 0 to 30");
        WardrobeKeeper x = Wardrobes.ofFourOfEach();
        for (int wrong : Checks.outOf(0, 30)) {
            checks.dueFor(wrong, Checks.ARGUMENT, () -> x.outfitFor(wrong, 0));
            checks.dueFor(wrong, Checks.ARGUMENT, () -> x.outfitFor(wrong, 256));
        }
        for (int warmth = 0; warmth <= 30; warmth++) {
            int least = warmth;
            checks.dueFor(warmth, warmth <= 20 ? 400 : 409, () -> x.outfitFor(least, 255));
        }
    }

    private void outfitForPeopleOutOfRange() {
        checks.says("13: people: 0 to 255");
        WardrobeKeeper x = Wardrobes.ofFourOfEach();
        for (int wrong : Checks.outOf(0, 255)) {
            checks.dueFor(wrong, Checks.ARGUMENT, () -> x.outfitFor(0, wrong));
        }
        checks.due(400, () -> x.outfitFor(0, 0));
        checks.due(400, () -> x.outfitFor(0, 255));
    }

    private void outfitForNone() {
        checks.says("13: NONE if there is none");
        checks.due(NONE, () -> new WardrobeKeeper().outfitFor(0, 0));
        checks.due(NONE, () -> Wardrobes.with(Wardrobes.top(0, 9, 1)).outfitFor(0, 0));
        checks.due(NONE, () -> Wardrobes.with(Wardrobes.bottom(0, 9, 1)).outfitFor(0, 0));
        checks.due(NONE, () -> Wardrobes.with(Wardrobes.bottom(0, 9, 1), Wardrobes.coat(0, 9, 1))
                .outfitFor(0, 0));
    }

    private void outfitForALeastWarmth() {
        checks.says("13: with a least warmth, which it may have just so");
        WardrobeKeeper x = Wardrobes.ofThree();
        for (int warmth = 0; warmth <= 30; warmth++) {
            int least = warmth;
            int want = warmth <= 5 ? 100 : warmth <= 12 ? 103 : NONE;
            checks.dueFor(warmth, want, () -> x.outfitFor(least, 0));
        }
        WardrobeKeeper warmest = Wardrobes.with(Wardrobes.top(0, 10, 1), Wardrobes.bottom(0, 10, 1),
                Wardrobes.coat(0, 10, 1));
        checks.due(103, () -> warmest.outfitFor(30, 0));
    }

    private void outfitForTheLeastWarmth() {
        checks.says("13: the one with the least warmth");
        WardrobeKeeper x = Wardrobes.with(Wardrobes.top(0, 10, 1), Wardrobes.bottom(0, 10, 1),
                Wardrobes.coat(0, 10, 1), Wardrobes.top(0, 9, 1), Wardrobes.bottom(0, 9, 1),
                Wardrobes.coat(0, 1, 1));
        checks.due(30400, () -> x.outfitFor(0, 0));
        checks.due(30400, () -> x.outfitFor(18, 0));
        checks.due(400, () -> x.outfitFor(19, 0));
        checks.due(100, () -> x.outfitFor(20, 0));
        checks.due(106, () -> x.outfitFor(21, 0));
        checks.due(30403, () -> x.outfitFor(22, 0));
        checks.due(403, () -> x.outfitFor(29, 0));
        checks.due(103, () -> x.outfitFor(30, 0));
    }

    private void outfitForTheLowestTop() {
        checks.says("13: of several the one with the lowest top, whatever goes with it");
        WardrobeKeeper x = Wardrobes.with(Wardrobes.top(0, 1, 1), Wardrobes.top(0, 2, 1),
                Wardrobes.bottom(0, 1, 1), Wardrobes.bottom(0, 2, 1), Wardrobes.coat(0, 1, 1));
        checks.due(205, () -> x.outfitFor(3, 0));
        x.giveAway(4);
        checks.due(300, () -> x.outfitFor(3, 0));
        x.giveAway(3);
        checks.due(10200, () -> x.outfitFor(3, 0));
    }

    private void outfitForTheLowestBottom() {
        checks.says("13: then the lowest bottom, though with a coat");
        WardrobeKeeper x = Wardrobes.with(Wardrobes.bottom(0, 1, 1), Wardrobes.bottom(0, 2, 1),
                Wardrobes.bottom(0, 2, 1), Wardrobes.top(0, 0, 1), Wardrobes.coat(0, 1, 1));
        checks.due(30005, () -> x.outfitFor(2, 0));
        x.giveAway(4);
        checks.due(30100, () -> x.outfitFor(2, 0));
        x.giveAway(1);
        checks.due(30200, () -> x.outfitFor(2, 0));
    }

    private void outfitForWithoutACoat() {
        checks.says("13: then without a coat");
        WardrobeKeeper x = Wardrobes.with(Wardrobes.coat(0, 0, 1), Wardrobes.top(0, 1, 1),
                Wardrobes.bottom(0, 1, 1));
        checks.due(10200, () -> x.outfitFor(0, 0));
        checks.due(10200, () -> x.outfitFor(2, 0));
        checks.due(NONE, () -> x.outfitFor(3, 0));
    }

    private void outfitForTheLowestCoat() {
        checks.says("13: then with the lowest coat; plus the coat and 1, or 0 without a coat");
        WardrobeKeeper x = Wardrobes.with(Wardrobes.coat(0, 2, 1), Wardrobes.top(0, 1, 1),
                Wardrobes.bottom(0, 1, 1), Wardrobes.coat(0, 1, 1), Wardrobes.coat(0, 1, 1));
        checks.due(10200, () -> x.outfitFor(2, 0));
        checks.due(10204, () -> x.outfitFor(3, 0));
        checks.due(10201, () -> x.outfitFor(4, 0));
        x.giveAway(3);
        checks.due(10205, () -> x.outfitFor(3, 0));
    }

    private void outfitForTheHighestNumbers() {
        checks.says("13: 10000 times the top, plus 100 times the bottom, plus the coat and 1, up to 11");
        int[] kinds = {0, 1, 2};
        for (int turn = 0; turn < 3; turn++) {
            WardrobeKeeper x = new WardrobeKeeper();
            int[] number = new int[3];
            for (int thing = 0; thing < 9; thing++) {
                x.add(2, 0, 0, 1, 0);
                x.giveAway(thing);
            }
            for (int place = 0; place < 3; place++) {
                int kind = kinds[(place + turn) % 3];
                number[kind] = x.add(kind, 0, 10, 1, 0);
            }
            int pair = 10000 * number[0] + 100 * number[1];
            checks.dueFor(turn, pair, () -> x.outfitFor(20, 255));
            checks.dueFor(turn, pair + number[2] + 1, () -> x.outfitFor(21, 255));
        }
    }

    private void outfitForNotTooSoon() {
        checks.says("13: for today: of those that are not too soon");
        WardrobeKeeper x = Wardrobes.with(Wardrobes.top(0, 1, 9), Wardrobes.bottom(0, 1, 9),
                Wardrobes.coat(0, 1, 9));
        x.wear(0, 1, NONE, 2);
        checks.due(NONE, () -> x.outfitFor(0, 2));
        checks.due(NONE, () -> x.outfitFor(3, 255));
        checks.due(100, () -> x.outfitFor(0, 253));
        checks.due(100, () -> x.outfitFor(0, 0));
        x.pass(6);
        checks.due(NONE, () -> x.outfitFor(0, 2));
        x.pass(1);
        checks.due(100, () -> x.outfitFor(0, 2));
        checks.due(103, () -> x.outfitFor(3, 255));
    }

    private void outfitForPossibleOnes() {
        checks.says("13: of the possible ones");
        WardrobeKeeper x = Wardrobes.with(Wardrobes.top(0, 1, 1), Wardrobes.bottom(1, 1, 9),
                Wardrobes.top(2, 2, 9), Wardrobes.coat(3, 1, 9), Wardrobes.coat(4, 1, 1));
        checks.due(100, () -> x.outfitFor(0, 0));
        x.wear(0, 1, 4, 0);
        checks.due(20100, () -> x.outfitFor(0, 0));
        checks.due(20104, () -> x.outfitFor(4, 0));
        x.setClash(2, 3, true);
        checks.due(NONE, () -> x.outfitFor(4, 0));
        x.wash(0, true);
        checks.due(20105, () -> x.outfitFor(4, 0));
        x.setClash(1, 4, true);
        checks.due(NONE, () -> x.outfitFor(4, 0));
        x.setClash(1, 2, true);
        checks.due(NONE, () -> x.outfitFor(0, 0));
    }
}
