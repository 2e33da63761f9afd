/** Promises 17 and 18, and the terms of bags: each sentence that names a boundary, by itself. */
public final class BagsBoundariesTest {
    private static final int NONE = WardrobeKeeper.NONE;
    private static final int ALL = 4095;

    private final Checks checks = new Checks();

    public static void main(String[] args) {
        BagsBoundariesTest test = new BagsBoundariesTest();
        test.enoughBitsOfNoThing();
        test.enoughBitOfAThingGivenAway();
        test.enoughDaysOutOfRange();
        test.enoughWarmthOutOfRange();
        test.enoughAllOutOfRange();
        test.enoughOfAnEmptyBag();
        test.enoughOfOneSide();
        test.enoughWhateverCoats();
        test.enoughOfALeastWarmth();
        test.enoughByTheWearsOfEachSide();
        test.enoughOfWhatIsLeft();
        test.enoughByColours();
        test.enoughWherePairsMustBeChosen();
        test.enoughWhoeverSawIt();
        test.enoughForTwentyDays();
        test.enoughOfAllThings();
        test.enoughOfTheThingZero();
        test.enoughAskedAgain();
        test.bagDaysOutOfRange();
        test.bagWarmthOutOfRange();
        test.bagNone();
        test.bagWithTheFewestThings();
        test.bagOfSeveralTheLeast();
        test.bagWithoutCoats();
        test.bagOfALeastWarmth();
        test.bagOfWhatIsLeft();
        test.bagByColours();
        test.bagWhoeverSawIt();
        test.bagOfTwelve();
        test.bagForTwentyDays();
        test.bagOfTheHighestNumbers();
        test.bagIsEnough();
        test.checks.end("BagsBoundariesTest");
    }

    private static void clashUnlessSame(WardrobeKeeper x) {
        for (int pair = 0; pair < 64; pair++) {
            x.setClash(pair / 8, pair % 8, pair / 8 != pair % 8);
        }
    }

    /** Tops 0, 2, .. 10 and bottoms 1, 3, .. 11; the pairs of colour 0 to 5 fit among themselves alone. */
    private static WardrobeKeeper ofSixPairs(int wears) {
        WardrobeKeeper x = new WardrobeKeeper();
        for (int colour = 0; colour < 6; colour++) {
            x.add(0, colour, 10, wears, 0);
            x.add(1, colour, 10, wears, 0);
        }
        clashUnlessSame(x);
        return x;
    }

    // ---- promise 17

    private void enoughBitsOfNoThing() {
        checks.says("17: IllegalArgumentException if things has a bit that stands for no thing");
        WardrobeKeeper few = Wardrobes.ofThree();
        for (int bit = 3; bit < 32; bit++) {
            int wrong = 1 << bit;
            checks.dueFor(bit, Checks.ARGUMENT, () -> few.isEnough(wrong, 1, 0));
            checks.dueFor(bit, Checks.ARGUMENT, () -> few.isEnough(wrong | 3, 1, 0));
        }
        WardrobeKeeper full = Wardrobes.ofSixAndSix(1);
        for (int bit = 12; bit < 32; bit++) {
            int wrong = 1 << bit;
            checks.dueFor(bit, Checks.ARGUMENT, () -> full.isEnough(wrong, 1, 0));
            checks.dueFor(bit, Checks.ARGUMENT, () -> full.isEnough(wrong | ALL, 1, 0));
        }
        checks.due(Checks.ARGUMENT, () -> full.isEnough(-1, 1, 0));
        checks.due(Checks.ARGUMENT, () -> full.isEnough(Integer.MIN_VALUE, 1, 0));
        checks.due(Checks.ARGUMENT, () -> full.isEnough(Integer.MAX_VALUE, 1, 0));
        checks.due(true, () -> full.isEnough(ALL, 1, 0));
        checks.due(Checks.ARGUMENT, () -> new WardrobeKeeper().isEnough(1, 1, 0));
    }

    private void enoughBitOfAThingGivenAway() {
        checks.says("17: a bit that stands for a thing that was given away");
        for (int away = 0; away < 12; away++) {
            WardrobeKeeper x = Wardrobes.ofSixAndSix(1);
            x.giveAway(away);
            int bit = 1 << away;
            checks.dueFor(away, Checks.ARGUMENT, () -> x.isEnough(bit, 1, 0));
            checks.dueFor(away, Checks.ARGUMENT, () -> x.isEnough(ALL, 1, 0));
            checks.dueFor(away, true, () -> x.isEnough(ALL & ~bit, 5, 0));
        }
        WardrobeKeeper coat = Wardrobes.ofThree();
        coat.giveAway(2);
        checks.due(Checks.ARGUMENT, () -> coat.isEnough(7, 1, 0));
        checks.due(true, () -> coat.isEnough(3, 1, 0));
    }

    private void enoughDaysOutOfRange() {
        checks.says("17: days: 1 to 20");
        WardrobeKeeper x = Wardrobes.ofSixAndSix(4);
        for (int wrong : Checks.outOf(1, 20)) {
            checks.dueFor(wrong, Checks.ARGUMENT, () -> x.isEnough(ALL, wrong, 0));
            checks.dueFor(wrong, Checks.ARGUMENT, () -> new WardrobeKeeper().isEnough(0, wrong, 0));
        }
        for (int days = 1; days <= 20; days++) {
            int right = days;
            checks.dueFor(days, true, () -> x.isEnough(ALL, right, 0));
        }
    }

    private void enoughWarmthOutOfRange() {
        checks.says("17: warmth: 0 to 20");
        WardrobeKeeper x = ofSixPairs(1);
        for (int wrong : Checks.outOf(0, 20)) {
            checks.dueFor(wrong, Checks.ARGUMENT, () -> x.isEnough(ALL, 1, wrong));
            checks.dueFor(wrong, Checks.ARGUMENT, () -> new WardrobeKeeper().isEnough(0, 1, wrong));
        }
        for (int warmth = 0; warmth <= 20; warmth++) {
            int right = warmth;
            checks.dueFor(warmth, true, () -> x.isEnough(ALL, 1, right));
        }
    }

    private void enoughAllOutOfRange() {
        checks.says("17: IllegalArgumentException if things, days or warmth is wrong, or several are");
        WardrobeKeeper x = Wardrobes.ofThree();
        checks.due(Checks.ARGUMENT, () -> x.isEnough(8, 0, 21));
        checks.due(Checks.ARGUMENT, () -> x.isEnough(8, 21, -1));
        checks.due(Checks.ARGUMENT, () -> x.isEnough(0, 0, 0));
    }

    private void enoughOfAnEmptyBag() {
        checks.says("17: things: none, which is never enough");
        checks.due(false, () -> new WardrobeKeeper().isEnough(0, 1, 0));
        checks.due(false, () -> Wardrobes.ofSixAndSix(9).isEnough(0, 1, 0));
        checks.due(false, () -> Wardrobes.ofSixAndSix(9).isEnough(0, 20, 20));
    }

    private void enoughOfOneSide() {
        checks.says("Bags: an outfit is a top and a bottom");
        WardrobeKeeper x = Wardrobes.ofSixAndSix(9);
        checks.due(false, () -> x.isEnough(0b010101010101, 1, 0));
        checks.due(false, () -> x.isEnough(0b101010101010, 1, 0));
        checks.due(false, () -> x.isEnough(1, 1, 0));
        checks.due(false, () -> x.isEnough(1 << 11, 1, 0));
        checks.due(true, () -> x.isEnough(1 | 1 << 11, 9, 0));
        checks.due(false, () -> x.isEnough(1 | 1 << 11, 10, 0));
    }

    private void enoughWhateverCoats() {
        checks.says("17: coats in it do not matter");
        WardrobeKeeper x = Wardrobes.with(Wardrobes.coat(0, 10, 9), Wardrobes.top(1, 1, 2),
                Wardrobes.bottom(2, 1, 2), Wardrobes.coat(3, 10, 9));
        for (int coats : new int[] {0, 1, 8, 9}) {
            checks.dueFor(coats, true, () -> x.isEnough(6 | coats, 2, 2));
            checks.dueFor(coats, false, () -> x.isEnough(6 | coats, 3, 2));
            checks.dueFor(coats, false, () -> x.isEnough(6 | coats, 2, 3));
            checks.dueFor(coats, false, () -> x.isEnough(2 | coats, 1, 0));
            checks.dueFor(coats, false, () -> x.isEnough(4 | coats, 1, 0));
            checks.dueFor(coats, false, () -> x.isEnough(coats, 1, 0));
        }
        x.setClash(0, 1, true);
        x.setClash(2, 3, true);
        checks.due(true, () -> x.isEnough(15, 2, 2));
    }

    private void enoughOfALeastWarmth() {
        checks.says("Bags: of which each has the least warmth or more");
        WardrobeKeeper x = Wardrobes.with(Wardrobes.top(0, 10, 1), Wardrobes.bottom(0, 10, 1),
                Wardrobes.top(0, 4, 1), Wardrobes.bottom(0, 4, 1));
        for (int warmth = 0; warmth <= 20; warmth++) {
            int least = warmth;
            checks.dueFor(warmth, true, () -> x.isEnough(3, 1, least));
            checks.dueFor(warmth, warmth <= 14, () -> x.isEnough(9, 1, least));
            checks.dueFor(warmth, warmth <= 8, () -> x.isEnough(12, 1, least));
            checks.dueFor(warmth, warmth <= 14, () -> x.isEnough(15, 2, least));
        }
    }

    private void enoughByTheWearsOfEachSide() {
        checks.says("Bags: no thing is worn more often than it still can be before a wash");
        for (int pair = 0; pair < 81; pair++) {
            int tops = pair / 9 + 1;
            int bottoms = pair % 9 + 1;
            int most = Math.min(tops, bottoms);
            WardrobeKeeper x = Wardrobes.with(Wardrobes.top(0, 0, tops), Wardrobes.bottom(0, 0, bottoms));
            checks.dueFor(pair, true, () -> x.isEnough(3, most, 0));
            checks.dueFor(pair, false, () -> x.isEnough(3, most + 1, 0));
        }
    }

    private void enoughOfWhatIsLeft() {
        checks.says("Bags: than it still can be, down to none");
        WardrobeKeeper x = Wardrobes.with(Wardrobes.top(0, 0, 3), Wardrobes.bottom(0, 0, 9));
        for (int left = 3; left > 0; left--) {
            int days = left;
            checks.dueFor(left, true, () -> x.isEnough(3, days, 0));
            checks.dueFor(left, false, () -> x.isEnough(3, days + 1, 0));
            x.wear(0, 1, NONE, 0);
        }
        checks.due(false, () -> x.isEnough(3, 1, 0));
        x.wash(0, false);
        checks.due(true, () -> x.isEnough(3, 3, 0));
    }

    private void enoughByColours() {
        checks.says("Bags: is possible by colours, of which each outfit has its own two");
        WardrobeKeeper x = ofSixPairs(1);
        checks.due(true, () -> x.isEnough(ALL, 6, 0));
        checks.due(false, () -> x.isEnough(ALL, 7, 0));
        checks.due(false, () -> x.isEnough(ALL & ~1, 6, 0));
        checks.due(true, () -> x.isEnough(ALL & ~1, 5, 0));
        checks.due(false, () -> x.isEnough(1 | 8, 1, 0));
        x.setClash(0, 0, true);
        checks.due(false, () -> x.isEnough(ALL, 6, 0));
        checks.due(true, () -> x.isEnough(ALL, 5, 0));
        checks.due(false, () -> x.isEnough(3, 1, 0));
    }

    private void enoughWherePairsMustBeChosen() {
        checks.says("Bags: outfits can be chosen for all of the days, though not every choice goes on");
        WardrobeKeeper x = Wardrobes.with(Wardrobes.top(0, 0, 2), Wardrobes.top(1, 0, 2),
                Wardrobes.bottom(2, 0, 2), Wardrobes.bottom(3, 0, 2));
        x.setClash(1, 3, true);
        checks.due(true, () -> x.isEnough(15, 4, 0));
        x.setClash(0, 3, true);
        checks.due(true, () -> x.isEnough(15, 2, 0));
        checks.due(false, () -> x.isEnough(15, 3, 0));
        x.setClash(1, 3, false);
        x.setClash(1, 2, true);
        checks.due(true, () -> x.isEnough(15, 4, 0));
        x.wear(0, 2, NONE, 0);
        checks.due(true, () -> x.isEnough(15, 3, 0));
        checks.due(false, () -> x.isEnough(15, 4, 0));
    }

    private void enoughWhoeverSawIt() {
        checks.says("Bags: Days do not differ, and people do not matter");
        WardrobeKeeper x = Wardrobes.with(Wardrobes.top(0, 0, 9), Wardrobes.bottom(0, 0, 9));
        x.wear(0, 1, NONE, 255);
        checks.due(true, () -> x.isEnough(3, 8, 0));
        checks.due(3, () -> x.bag(8, 0));
        x.pass(1);
        checks.due(true, () -> x.isEnough(3, 8, 0));
        checks.due(false, () -> x.isEnough(3, 9, 0));
    }

    private void enoughForTwentyDays() {
        checks.says("17: days: up to 20, with the wears of all things together");
        WardrobeKeeper x = Wardrobes.with(Wardrobes.top(0, 0, 9), Wardrobes.top(0, 0, 9),
                Wardrobes.top(0, 0, 1), Wardrobes.top(0, 0, 1), Wardrobes.bottom(0, 0, 7),
                Wardrobes.bottom(0, 0, 7), Wardrobes.bottom(0, 0, 6));
        checks.due(true, () -> x.isEnough(127, 20, 0));
        for (int thing = 0; thing < 7; thing++) {
            int without = 127 & ~(1 << thing);
            checks.dueFor(thing, false, () -> x.isEnough(without, 20, 0));
        }
    }

    private void enoughOfAllThings() {
        checks.says("17: things: bit t stands for the thing t, 0 to 11");
        WardrobeKeeper x = Wardrobes.ofSixAndSix(1);
        checks.due(true, () -> x.isEnough(ALL, 6, 2));
        checks.due(false, () -> x.isEnough(ALL, 7, 2));
        for (int thing = 0; thing < 12; thing++) {
            int bit = 1 << thing;
            int partner = thing % 2 == 0 ? 2 : 1;
            int other = thing < 2 ? partner << 10 : partner;
            checks.dueFor(thing, false, () -> x.isEnough(bit, 1, 0));
            checks.dueFor(thing, true, () -> x.isEnough(bit | other, 1, 0));
            checks.dueFor(thing, false, () -> x.isEnough(ALL & ~bit, 6, 0));
        }
    }

    private void enoughOfTheThingZero() {
        checks.says("Things: numbered from 0, whichever kind the first is, in a bag too");
        WardrobeKeeper x = Wardrobes.with(Wardrobes.bottom(0, 0, 2), Wardrobes.top(0, 0, 2));
        checks.due(true, () -> x.isEnough(3, 2, 0));
        checks.due(3, () -> x.bag(2, 0));
        WardrobeKeeper y = Wardrobes.with(Wardrobes.coat(0, 0, 2), Wardrobes.bottom(0, 0, 2),
                Wardrobes.top(0, 0, 2));
        checks.due(true, () -> y.isEnough(7, 2, 0));
        checks.due(6, () -> y.bag(2, 0));
    }

    private void enoughAskedAgain() {
        checks.says("17: Tells whether a bag is enough, by the clashes and the warmth of now");
        int tops = 0b010101010101;
        for (int thing = 0; thing < 12; thing++) {
            WardrobeKeeper x = Wardrobes.ofSixAndSix(1);
            int bag = 1 << thing | (thing % 2 == 0 ? ALL & ~tops : tops);
            checks.dueFor(thing, true, () -> x.isEnough(bag, 1, 2));
            checks.dueFor(thing, false, () -> x.isEnough(bag, 1, 3));
            checks.dueFor(thing, true, () -> x.isEnough(bag, 1, 2));
            x.setClash(0, 0, true);
            checks.dueFor(thing, false, () -> x.isEnough(bag, 1, 2));
            x.setClash(0, 0, false);
            checks.dueFor(thing, true, () -> x.isEnough(bag, 1, 2));
        }
    }

    // ---- promise 18

    private void bagDaysOutOfRange() {
        checks.says("18: days: 1 to 20");
        WardrobeKeeper x = Wardrobes.ofSixAndSix(9);
        for (int wrong : Checks.outOf(1, 20)) {
            checks.dueFor(wrong, Checks.ARGUMENT, () -> x.bag(wrong, 0));
            checks.dueFor(wrong, Checks.ARGUMENT, () -> x.bag(wrong, 21));
            checks.dueFor(wrong, Checks.ARGUMENT, () -> new WardrobeKeeper().bag(wrong, 0));
        }
        for (int days = 1; days <= 20; days++) {
            int right = days;
            int want = days <= 9 ? 3 : days <= 18 ? 15 : 63;
            checks.dueFor(days, want, () -> x.bag(right, 2));
        }
    }

    private void bagWarmthOutOfRange() {
        checks.says("18: warmth: 0 to 20");
        WardrobeKeeper x = ofSixPairs(1);
        for (int wrong : Checks.outOf(0, 20)) {
            checks.dueFor(wrong, Checks.ARGUMENT, () -> x.bag(1, wrong));
            checks.dueFor(wrong, Checks.ARGUMENT, () -> new WardrobeKeeper().bag(1, wrong));
        }
        for (int warmth = 0; warmth <= 20; warmth++) {
            int right = warmth;
            checks.dueFor(warmth, 3, () -> x.bag(1, right));
        }
    }

    private void bagNone() {
        checks.says("18: 0 if there is none");
        checks.due(0, () -> new WardrobeKeeper().bag(1, 0));
        checks.due(0, () -> Wardrobes.with(Wardrobes.top(0, 9, 9)).bag(1, 0));
        checks.due(0, () -> Wardrobes.with(Wardrobes.bottom(0, 9, 9)).bag(1, 0));
        checks.due(0, () -> Wardrobes.with(Wardrobes.coat(0, 9, 9), Wardrobes.top(0, 9, 9)).bag(1, 0));
        checks.due(0, () -> Wardrobes.ofThree().bag(4, 0));
        checks.due(0, () -> Wardrobes.ofThree().bag(1, 6));
        checks.due(0, () -> Wardrobes.ofSixAndSix(3).bag(19, 0));
        checks.due(ALL, () -> Wardrobes.ofSixAndSix(3).bag(18, 0));
    }

    private void bagWithTheFewestThings() {
        checks.says("18: the bag with the fewest things, though another is less as a number");
        WardrobeKeeper x = Wardrobes.with(Wardrobes.top(0, 0, 1), Wardrobes.top(0, 0, 1),
                Wardrobes.bottom(0, 0, 1), Wardrobes.bottom(0, 0, 1), Wardrobes.top(0, 0, 2),
                Wardrobes.bottom(0, 0, 2));
        checks.due(5, () -> x.bag(1, 0));
        checks.due(48, () -> x.bag(2, 0));
        checks.due(16 + 32 + 1 + 4, () -> x.bag(3, 0));
        checks.due(63, () -> x.bag(4, 0));
        checks.due(0, () -> x.bag(5, 0));
        x.giveAway(5);
        checks.due(16 + 8 + 4, () -> x.bag(2, 0));
        x.giveAway(4);
        checks.due(15, () -> x.bag(2, 0));
    }

    private void bagOfSeveralTheLeast() {
        checks.says("18: of several the one that is least as a number");
        WardrobeKeeper x = Wardrobes.with(Wardrobes.top(0, 0, 1), Wardrobes.top(1, 0, 1),
                Wardrobes.bottom(1, 0, 1), Wardrobes.bottom(0, 0, 1));
        clashUnlessSame(x);
        checks.due(6, () -> x.bag(1, 0));
        x.setClash(0, 1, false);
        checks.due(5, () -> x.bag(1, 0));
        WardrobeKeeper y = Wardrobes.with(Wardrobes.top(0, 0, 9), Wardrobes.top(1, 0, 9),
                Wardrobes.top(2, 0, 9), Wardrobes.bottom(2, 0, 9), Wardrobes.bottom(1, 0, 9),
                Wardrobes.bottom(0, 0, 9));
        clashUnlessSame(y);
        checks.due(4 + 8, () -> y.bag(9, 0));
        checks.due(2 + 4 + 8 + 16, () -> y.bag(10, 0));
        checks.due(63, () -> y.bag(19, 0));
    }

    private void bagWithoutCoats() {
        checks.says("Bags: A bag is a set of tops and bottoms");
        WardrobeKeeper x = Wardrobes.with(Wardrobes.coat(0, 10, 9), Wardrobes.coat(0, 10, 9),
                Wardrobes.top(0, 1, 1), Wardrobes.bottom(0, 1, 1), Wardrobes.coat(0, 10, 9));
        checks.due(12, () -> x.bag(1, 0));
        checks.due(12, () -> x.bag(1, 2));
        checks.due(0, () -> x.bag(1, 3));
        x.giveAway(3);
        checks.due(0, () -> x.bag(1, 0));
    }

    private void bagOfALeastWarmth() {
        checks.says("18: warmth: the least warmth, which each outfit may have just so");
        WardrobeKeeper x = Wardrobes.with(Wardrobes.top(0, 3, 9), Wardrobes.bottom(0, 4, 9),
                Wardrobes.top(0, 10, 9), Wardrobes.bottom(0, 10, 9));
        for (int warmth = 0; warmth <= 20; warmth++) {
            int least = warmth;
            int want = warmth <= 7 ? 3 : warmth <= 14 ? 6 : 12;
            checks.dueFor(warmth, want, () -> x.bag(9, least));
            checks.dueFor(warmth, warmth <= 13 ? 15 : 0, () -> x.bag(10, least));
        }
    }

    private void bagOfWhatIsLeft() {
        checks.says("18: of things that still can be worn, and are there");
        WardrobeKeeper x = Wardrobes.ofSixAndSix(2);
        x.wear(0, 1, NONE, 0);
        checks.due(3, () -> x.bag(1, 0));
        checks.due(12, () -> x.bag(2, 0));
        x.wear(0, 3, NONE, 0);
        checks.due(4 + 2, () -> x.bag(1, 0));
        checks.due(4 + 32, () -> x.bag(2, 0));
        x.giveAway(1);
        checks.due(4 + 8, () -> x.bag(1, 0));
        checks.due(0b111111111100, () -> x.bag(9, 0));
        checks.due(0, () -> x.bag(10, 0));
    }

    private void bagByColours() {
        checks.says("18: a bag that is enough, by colours");
        WardrobeKeeper x = ofSixPairs(2);
        checks.due(3, () -> x.bag(2, 20));
        x.setClash(0, 0, true);
        checks.due(12, () -> x.bag(2, 20));
        checks.due(60, () -> x.bag(3, 20));
        checks.due(ALL - 3, () -> x.bag(10, 20));
        checks.due(0, () -> x.bag(11, 20));
    }

    private void bagWhoeverSawIt() {
        checks.says("18: Days do not differ, and people do not matter");
        WardrobeKeeper x = Wardrobes.ofSixAndSix(2);
        x.wear(0, 1, NONE, 255);
        x.wash(0, false);
        checks.due(3, () -> x.bag(2, 0));
    }

    private void bagOfTwelve() {
        checks.says("18: the fewest things, up to all twelve");
        WardrobeKeeper any = Wardrobes.ofSixAndSix(1);
        WardrobeKeeper pairs = ofSixPairs(3);
        for (int count = 1; count <= 6; count++) {
            int days = count;
            int want = (1 << 2 * count) - 1;
            checks.dueFor(count, want, () -> any.bag(days, 2));
            checks.dueFor(count, want, () -> pairs.bag(3 * days, 20));
            checks.dueFor(count, want, () -> pairs.bag(3 * days - 2, 0));
        }
        checks.due(0, () -> any.bag(7, 0));
        checks.due(0, () -> pairs.bag(19, 0));
    }

    private void bagForTwentyDays() {
        checks.says("18: days: up to 20, with the wears of all things together");
        WardrobeKeeper x = Wardrobes.with(Wardrobes.top(0, 0, 9), Wardrobes.bottom(0, 0, 1),
                Wardrobes.bottom(0, 0, 9), Wardrobes.top(0, 0, 2), Wardrobes.top(0, 0, 9),
                Wardrobes.bottom(0, 0, 1), Wardrobes.bottom(0, 0, 9), Wardrobes.coat(0, 0, 9));
        checks.due(127, () -> x.bag(20, 0));
        checks.due(127 - 32, () -> x.bag(19, 0));
        checks.due(1 + 4 + 16 + 64, () -> x.bag(18, 0));
        checks.due(5, () -> x.bag(9, 0));
        x.wear(3, 1, NONE, 0);
        checks.due(0, () -> x.bag(20, 0));
        checks.due(127 - 2, () -> x.bag(19, 0));
    }

    private void bagOfTheHighestNumbers() {
        checks.says("18: bit t stands for the thing t, up to 11");
        WardrobeKeeper x = new WardrobeKeeper();
        for (int thing = 0; thing < 10; thing++) {
            x.add(2, 0, 0, 9, 0);
        }
        x.add(1, 0, 10, 9, 0);
        x.add(0, 0, 10, 9, 0);
        checks.due(1024 + 2048, () -> x.bag(9, 20));
        checks.due(0, () -> x.bag(10, 20));
        checks.due(true, () -> x.isEnough(1024 + 2048, 9, 20));
    }

    private void bagIsEnough() {
        checks.says("18: the bag that is enough, as isEnough tells");
        WardrobeKeeper x = ofSixPairs(3);
        for (int days = 1; days <= 18; days++) {
            int asked = days;
            checks.dueFor(days, true, () -> x.isEnough(x.bag(asked, 20), asked, 20));
        }
    }
}
