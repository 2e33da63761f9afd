import java.util.Arrays;
import java.util.Random;

/** Runs of calls with fixed seeds, each answered by WardrobeKeeper and by PlainWardrobe alike. */
public final class RandomRunsTest {
    private static final int RUNS = 400;
    private static final int CALLS = 512;

    private final Checks checks;
    private final Random random;
    private final WardrobeKeeper keeper = new WardrobeKeeper();
    private final PlainWardrobe plain = new PlainWardrobe();
    private final String name;
    private final int[] kindOf = new int[12];
    private int added = 0;
    private final boolean isForBags;
    private final boolean isOneBasket;
    private final boolean isMuchAdded;
    private final int maxWears;

    private RandomRunsTest(Checks checks, int seed) {
        this.checks = checks;
        random = new Random(seed);
        name = "run " + seed;
        isForBags = seed % 5 == 0;
        isOneBasket = seed % 3 == 0;
        isMuchAdded = isForBags || random.nextBoolean();
        maxWears = 1 + random.nextInt(9);
        Arrays.fill(kindOf, -1);
    }

    public static void main(String[] args) {
        Checks checks = new Checks();
        for (int seed = 0; seed < RUNS && checks.areAllRight(); seed++) {
            new RandomRunsTest(checks, seed).run();
        }
        checks.end("RandomRunsTest");
    }

    /** Mostly within the bounds, now and then on or over an edge. */
    private int value(int least, int most) {
        int turn = random.nextInt(40);
        if (turn == 0) {
            return least - 1;
        }
        if (turn == 1) {
            return most + 1;
        }
        if (turn == 2 && random.nextInt(5) == 0) {
            return random.nextInt();
        }
        return turn < 6 ? least : turn < 9 ? most : least + random.nextInt(most - least + 1);
    }

    private int thing() {
        return value(0, 11);
    }

    /** Mostly a thing of the kind that is there: else outfits would hardly ever be right. */
    private int thing(int kind) {
        for (int i = 0; i < 20 && random.nextInt(60) != 0; i++) {
            int found = random.nextInt(12);
            if (kindOf[found] == kind && (hasThing(found) || random.nextInt(30) == 0)) {
                return found;
            }
        }
        return thing();
    }

    private int coat() {
        return random.nextInt(2) == 0 ? -1 : thing(2);
    }

    private int people() {
        return random.nextInt(3) == 0 ? value(0, 255) : 1 << random.nextInt(8);
    }

    private int warmth(int most) {
        return random.nextInt(3) != 0 ? random.nextInt(most / 2) : value(0, most);
    }

    private int days() {
        return random.nextInt(2) == 0 ? 1 + random.nextInt(6) : value(1, 20);
    }

    private int bits() {
        int some = 0;
        for (int i = 0; i < 12; i++) {
            if (hasThing(i) ? random.nextInt(4) != 0 : random.nextInt(100) == 0) {
                some |= 1 << i;
            }
        }
        return random.nextInt(30) == 0 ? value(0, 4095) : some;
    }

    private void due(String call, Checks.Call want, Checks.Call got) {
        checks.due(name + ": " + call, Checks.answerOf(want), got);
    }

    private void run() {
        if (isMuchAdded) {
            for (int i = 0; i < 11; i++) {
                callAdd();
            }
        }
        for (int call = 11; call < CALLS && checks.areAllRight(); call++) {
            if (random.nextInt(isForBags ? 10 : 250) == 0) {
                callBag();
            } else {
                callSome();
            }
        }
    }

    private void callSome() {
        switch (random.nextInt(20)) {
            case 0 -> callAdd();
            case 1 -> callGiveAway();
            case 2 -> callSetClash();
            case 3 -> due("things()", plain::things, keeper::things);
            case 4 -> callLeft();
            case 5 -> callIsPossible();
            case 6 -> callIsTooSoon();
            case 7, 8, 9, 10, 11 -> callWear();
            case 12 -> callOutfits();
            case 13 -> callAdds();
            case 14 -> due("missingTop()", plain::missingTop, keeper::missingTop);
            case 15 -> callOutfitFor();
            case 16 -> callLoad();
            case 17 -> callWashNowAndThen();
            case 18 -> callPass();
            default -> callIsEnough();
        }
    }

    private void callAdd() {
        int kind = isForBags && random.nextInt(8) != 0 ? random.nextInt(2) : value(0, 2);
        int colour = isOneBasket ? random.nextInt(4) : value(0, 7);
        int warmth = value(0, 10);
        int wears = random.nextInt(20) == 0 ? value(1, 9) : 1 + random.nextInt(maxWears);
        int care = isOneBasket ? 0 : value(0, 2);
        due("add(" + kind + ", " + colour + ", " + warmth + ", " + wears + ", " + care + ")",
                () -> plain.add(kind, colour, warmth, wears, care),
                () -> keeper.add(kind, colour, warmth, wears, care));
        while (added < 12 && hasThing(added)) {
            kindOf[added] = kind;
            added++;
        }
    }

    private boolean hasThing(int thing) {
        return Checks.answerOf(() -> plain.left(thing)) instanceof Integer;
    }

    private void callGiveAway() {
        int thing = random.nextInt(9) == 0 ? thing() : -1;
        due("giveAway(" + thing + ")", () -> plain.giveAway(thing), () -> keeper.giveAway(thing));
    }

    private void callSetClash() {
        int colour = value(0, 7);
        int other = value(0, 7);
        boolean doClash = random.nextInt(5) < 2;
        due("setClash(" + colour + ", " + other + ", " + doClash + ")",
                () -> plain.setClash(colour, other, doClash),
                () -> keeper.setClash(colour, other, doClash));
    }

    private void callLeft() {
        int thing = thing();
        due("left(" + thing + ")", () -> plain.left(thing), () -> keeper.left(thing));
    }

    private void callIsPossible() {
        int top = thing(0);
        int bottom = thing(1);
        int coat = coat();
        due("isPossible(" + top + ", " + bottom + ", " + coat + ")",
                () -> plain.isPossible(top, bottom, coat),
                () -> keeper.isPossible(top, bottom, coat));
    }

    private void callIsTooSoon() {
        int top = thing(0);
        int bottom = thing(1);
        int people = people();
        due("isTooSoon(" + top + ", " + bottom + ", " + people + ")",
                () -> plain.isTooSoon(top, bottom, people),
                () -> keeper.isTooSoon(top, bottom, people));
    }

    private void callWear() {
        int top = thing(0);
        int bottom = thing(1);
        int coat = coat();
        int people = people();
        due("wear(" + top + ", " + bottom + ", " + coat + ", " + people + ")",
                () -> plain.wear(top, bottom, coat, people),
                () -> keeper.wear(top, bottom, coat, people));
    }

    private void callOutfits() {
        int warmth = warmth(30);
        due("outfits(" + warmth + ")", () -> plain.outfits(warmth), () -> keeper.outfits(warmth));
    }

    private void callAdds() {
        int thing = thing();
        int warmth = warmth(30);
        due("adds(" + thing + ", " + warmth + ")",
                () -> plain.adds(thing, warmth), () -> keeper.adds(thing, warmth));
    }

    private void callOutfitFor() {
        int warmth = warmth(30);
        int people = people();
        due("outfitFor(" + warmth + ", " + people + ")",
                () -> plain.outfitFor(warmth, people), () -> keeper.outfitFor(warmth, people));
    }

    private void callLoad() {
        int care = isOneBasket ? 0 : value(0, 2);
        boolean isDark = !isOneBasket && random.nextBoolean();
        due("load(" + care + ", " + isDark + ")",
                () -> plain.load(care, isDark), () -> keeper.load(care, isDark));
    }

    private void callWash() {
        int care = isOneBasket ? 0 : value(0, 2);
        boolean isDark = !isOneBasket && random.nextBoolean();
        due("wash(" + care + ", " + isDark + ")",
                () -> plain.wash(care, isDark), () -> keeper.wash(care, isDark));
    }

    /** Seldom enough that more things wait than one wash takes. */
    private void callWashNowAndThen() {
        if (random.nextInt(4) == 0) {
            callWash();
        }
    }

    private void callPass() {
        int days = random.nextInt(10) != 0 ? 1 + random.nextInt(3) : value(1, 365);
        due("pass(" + days + ")", () -> plain.pass(days), () -> keeper.pass(days));
    }

    private void callIsEnough() {
        int things = bits();
        int days = days();
        int warmth = warmth(20);
        due("isEnough(" + things + ", " + days + ", " + warmth + ")",
                () -> plain.isEnough(things, days, warmth),
                () -> keeper.isEnough(things, days, warmth));
    }

    private void callBag() {
        int days = days();
        int warmth = warmth(20);
        due("bag(" + days + ", " + warmth + ")",
                () -> plain.bag(days, warmth), () -> keeper.bag(days, warmth));
    }
}
