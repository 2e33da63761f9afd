/**
 * A keeper of a wardrobe: tops, bottoms and coats with colours, warmth, wears and care, outfits
 * whose colours do not clash, outfits that are not worn again too soon among the same people,
 * washes by care and colour, and bags with the fewest things for some days.
 *
 * Sets of things are kept as bits: bit t stands for the thing t.
 */
public final class WardrobeKeeper {
    public static final int NONE = -1;
    public static final int TOP = 0, BOTTOM = 1, COAT = 2;

    private static final int MAX_THINGS = 12;
    private static final int COLOURS = 8;
    private static final int FIRST_DARK_COLOUR = 4;
    private static final int MAX_WARMTH = 10;
    private static final int MAX_WEARS = 9;
    private static final int MAX_CARE = 2;
    private static final int PERSONS = 8;
    private static final int ALL_PEOPLE = 255;
    private static final int DAYS_TOO_SOON = 7;
    private static final int MAX_OUTFIT_WARMTH = 30;
    private static final int MAX_PER_WASH = 5;
    private static final int MAX_DAYS_TO_PASS = 365;
    private static final int LAST_DAY = 10000;
    private static final int MAX_BAG_DAYS = 20;
    private static final int MAX_BAG_WARMTH = 20;

    private final int[] kinds = new int[MAX_THINGS];
    private final int[] colours = new int[MAX_THINGS];
    private final int[] warmths = new int[MAX_THINGS];
    private final int[] wearsWhenClean = new int[MAX_THINGS];
    private final int[] cares = new int[MAX_THINGS];
    private final int[] wearsLeft = new int[MAX_THINGS];
    private int added;
    private int owned;
    private int today;

    /** Bit 8 * a + b: the colours a and b clash; both orders are kept. */
    private long clashes;

    /** By top, bottom and person: the first day on which the person may see the two again. */
    private final int[] freeFrom = new int[MAX_THINGS * MAX_THINGS * PERSONS];

    /** The partners of each thing in outfits for a bag; a row that each question fills anew. */
    private final int[] partners = new int[MAX_THINGS];

    public WardrobeKeeper() {
    }

    // ---- things

    public int add(int kind, int colour, int warmth, int wears, int care)
            throws IllegalArgumentException, IllegalStateException {
        if (!isWithin(kind, TOP, COAT) || !isColour(colour) || !isWithin(warmth, 0, MAX_WARMTH)
                || !isWithin(wears, 1, MAX_WEARS) || !isCare(care)) {
            throw new IllegalArgumentException("an argument is out of range");
        }
        if (added >= MAX_THINGS) {
            throw new IllegalStateException("12 things were added");
        }
        int thing = added;
        kinds[thing] = kind;
        colours[thing] = colour;
        warmths[thing] = warmth;
        wearsWhenClean[thing] = wears;
        cares[thing] = care;
        wearsLeft[thing] = wears;
        owned |= 1 << thing;
        added++;
        return thing;
    }

    public int giveAway(int thing) throws IndexOutOfBoundsException {
        if (!isThing(thing)) {
            throw new IndexOutOfBoundsException("no such thing");
        }
        owned &= ~(1 << thing);
        return Integer.bitCount(owned);
    }

    public boolean setClash(int colour, int other, boolean doClash) throws IllegalArgumentException {
        if (!isColour(colour) || !isColour(other)) {
            throw new IllegalArgumentException("a colour is out of range");
        }
        boolean did = coloursClash(colour, other);
        long both = clashBit(colour, other) | clashBit(other, colour);
        clashes = doClash ? clashes | both : clashes & ~both;
        return did;
    }

    public int things() {
        return Integer.bitCount(owned);
    }

    public int left(int thing) throws IndexOutOfBoundsException {
        if (!isThing(thing)) {
            throw new IndexOutOfBoundsException("no such thing");
        }
        return wearsLeft[thing];
    }

    // ---- outfits

    public boolean isPossible(int top, int bottom, int coat)
            throws IndexOutOfBoundsException, IllegalArgumentException {
        if (!areThings(top, bottom, coat)) {
            throw new IndexOutOfBoundsException("no such thing");
        }
        if (!areOfTheirKinds(top, bottom, coat)) {
            throw new IllegalArgumentException("a thing of another kind");
        }
        return canBeWorn(top, bottom, coat);
    }

    public boolean isTooSoon(int top, int bottom, int people)
            throws IndexOutOfBoundsException, IllegalArgumentException {
        if (!areThings(top, bottom, NONE)) {
            throw new IndexOutOfBoundsException("no such thing");
        }
        if (!areOfTheirKinds(top, bottom, NONE) || !arePeople(people)) {
            throw new IllegalArgumentException("a thing of another kind, or people out of range");
        }
        return wasSeenLately(top, bottom, people);
    }

    public int wear(int top, int bottom, int coat, int people)
            throws IndexOutOfBoundsException, IllegalArgumentException, IllegalStateException {
        if (!areThings(top, bottom, coat)) {
            throw new IndexOutOfBoundsException("no such thing");
        }
        if (!areOfTheirKinds(top, bottom, coat) || !arePeople(people)) {
            throw new IllegalArgumentException("a thing of another kind, or people out of range");
        }
        if (!canBeWorn(top, bottom, coat) || wasSeenLately(top, bottom, people)) {
            throw new IllegalStateException("the outfit is not possible, or too soon");
        }
        wearOnce(top);
        wearOnce(bottom);
        wearOnce(coat);
        showTo(top, bottom, people);
        return outfitWarmth(top, bottom, coat);
    }

    public int outfits(int warmth) throws IllegalArgumentException {
        if (!isOutfitWarmth(warmth)) {
            throw new IllegalArgumentException("the warmth is out of range");
        }
        int count = 0;
        for (int top = 0; top < added; top++) {
            for (int bottom = 0; bottom < added; bottom++) {
                count += countOutfitsOf(top, bottom, warmth);
            }
        }
        return count;
    }

    public int adds(int thing, int warmth) throws IndexOutOfBoundsException, IllegalArgumentException {
        if (!isThing(thing)) {
            throw new IndexOutOfBoundsException("no such thing");
        }
        if (!isOutfitWarmth(warmth)) {
            throw new IllegalArgumentException("the warmth is out of range");
        }
        int count = 0;
        for (int top = 0; top < added; top++) {
            for (int bottom = 0; bottom < added; bottom++) {
                if (top == thing || bottom == thing) {
                    count += countOutfitsOf(top, bottom, warmth);
                } else if (isWarmOutfit(top, bottom, thing, warmth)) {
                    count++;
                }
            }
        }
        return count;
    }

    public int missingTop() {
        int best = 0;
        int most = 0;
        for (int colour = 0; colour < COLOURS; colour++) {
            int count = countBottomsFor(colour);
            if (count > most) {
                best = colour;
                most = count;
            }
        }
        return best;
    }

    public int outfitFor(int warmth, int people) throws IllegalArgumentException {
        if (!isOutfitWarmth(warmth) || !arePeople(people)) {
            throw new IllegalArgumentException("the warmth or people is out of range");
        }
        int best = NONE;
        int least = MAX_OUTFIT_WARMTH + 1;
        for (int top = 0; top < added; top++) {
            for (int bottom = 0; bottom < added; bottom++) {
                if (!canBeWorn(top, bottom, NONE) || wasSeenLately(top, bottom, people)) {
                    continue;
                }
                for (int coat = NONE; coat < added; coat++) {
                    int together = outfitWarmth(top, bottom, coat);
                    if (together < least && isWarmOutfit(top, bottom, coat, warmth)) {
                        best = 10000 * top + 100 * bottom + coat + 1;
                        least = together;
                    }
                }
            }
        }
        return best;
    }

    // ---- washes and days

    public int load(int care, boolean isDark) throws IllegalArgumentException {
        if (!isCare(care)) {
            throw new IllegalArgumentException("the care is out of range");
        }
        int count = 0;
        for (int thing = 0; thing < added; thing++) {
            if (isWashedWith(thing, care, isDark) && wearsLeftOf(thing) == 0) {
                count++;
            }
        }
        return count;
    }

    public int wash(int care, boolean isDark) throws IllegalArgumentException {
        if (!isCare(care)) {
            throw new IllegalArgumentException("the care is out of range");
        }
        int washed = 0;
        for (int place = 0; place < MAX_PER_WASH; place++) {
            int thing = nextToWash(care, isDark);
            if (thing != NONE) {
                makeClean(thing);
                washed++;
            }
        }
        return washed;
    }

    public int pass(int days) throws IllegalArgumentException, IllegalStateException {
        if (!isWithin(days, 1, MAX_DAYS_TO_PASS)) {
            throw new IllegalArgumentException("days is out of range");
        }
        if (today + days > LAST_DAY) {
            throw new IllegalStateException("today would be above 10000");
        }
        today += days;
        return today;
    }

    // ---- bags

    public boolean isEnough(int things, int days, int warmth) throws IllegalArgumentException {
        if ((things & ~owned) != 0 || !isBagQuestion(days, warmth)) {
            throw new IllegalArgumentException("no such thing, or days or warmth out of range");
        }
        findPartners(warmth);
        return lasts(things & thingsOfKind(TOP), things & thingsOfKind(BOTTOM), days);
    }

    public int bag(int days, int warmth) throws IllegalArgumentException {
        if (!isBagQuestion(days, warmth)) {
            throw new IllegalArgumentException("days or warmth is out of range");
        }
        findPartners(warmth);
        int useful = usefulThings();
        int tops = useful & thingsOfKind(TOP);
        int bottoms = useful & thingsOfKind(BOTTOM);
        if (!lasts(tops, bottoms, days)) {
            return 0;
        }
        int best = useful;
        int fewest = Integer.bitCount(useful);
        int tried = 0;
        for (int rest = 1 << fewest; rest > 0; rest--) {
            int size = Integer.bitCount(tried);
            if (size < fewest && lasts(tried & tops, tried & bottoms, days)) {
                best = tried;
                fewest = size;
            }
            tried = nextPart(tried, useful);
        }
        return best;
    }

    // ---- what arguments may be

    private static boolean isWithin(int value, int least, int most) {
        return value >= least && value <= most;
    }

    private static boolean isColour(int colour) {
        return isWithin(colour, 0, COLOURS - 1);
    }

    private static boolean isCare(int care) {
        return isWithin(care, 0, MAX_CARE);
    }

    private static boolean arePeople(int people) {
        return isWithin(people, 0, ALL_PEOPLE);
    }

    private static boolean isOutfitWarmth(int warmth) {
        return isWithin(warmth, 0, MAX_OUTFIT_WARMTH);
    }

    private static boolean isBagQuestion(int days, int warmth) {
        return isWithin(days, 1, MAX_BAG_DAYS) && isWithin(warmth, 0, MAX_BAG_WARMTH);
    }

    private boolean isThing(int thing) {
        return thing >= 0 && thing < MAX_THINGS && (owned >> thing & 1) != 0;
    }

    private boolean areThings(int top, int bottom, int coat) {
        return isThing(top) && isThing(bottom) && (coat == NONE || isThing(coat));
    }

    private boolean isOfKind(int thing, int kind) {
        return isThing(thing) && kinds[thing] == kind;
    }

    private boolean areOfTheirKinds(int top, int bottom, int coat) {
        return isOfKind(top, TOP) && isOfKind(bottom, BOTTOM) && (coat == NONE || isOfKind(coat, COAT));
    }

    // ---- single things and colours

    private int wearsLeftOf(int thing) {
        return isThing(thing) ? wearsLeft[thing] : 0;
    }

    /** What is no thing, as NONE for a coat, has no warmth. */
    private int warmthOf(int thing) {
        return isThing(thing) ? warmths[thing] : 0;
    }

    private boolean isCleanOfKind(int thing, int kind) {
        return isThing(thing) && kinds[thing] == kind && wearsLeft[thing] > 0;
    }

    private void wearOnce(int thing) {
        if (wearsLeftOf(thing) > 0) {
            wearsLeft[thing]--;
        }
    }

    private void makeClean(int thing) {
        if (isThing(thing)) {
            wearsLeft[thing] = wearsWhenClean[thing];
        }
    }

    private static long clashBit(int colour, int other) {
        return 1L << (COLOURS * colour + other);
    }

    private boolean coloursClash(int colour, int other) {
        return (clashes & clashBit(colour, other)) != 0;
    }

    private boolean doClash(int thing, int other) {
        return isThing(thing) && isThing(other) && coloursClash(colours[thing], colours[other]);
    }

    // ---- outfits of things

    private boolean canBeWorn(int top, int bottom, int coat) {
        return isCleanOfKind(top, TOP) && isCleanOfKind(bottom, BOTTOM) && !doClash(top, bottom)
                && (coat == NONE || fitsOver(coat, top, bottom));
    }

    private boolean fitsOver(int coat, int top, int bottom) {
        return isCleanOfKind(coat, COAT) && !doClash(coat, top) && !doClash(coat, bottom);
    }

    private int outfitWarmth(int top, int bottom, int coat) {
        return warmthOf(top) + warmthOf(bottom) + warmthOf(coat);
    }

    private boolean isWarmOutfit(int top, int bottom, int coat, int warmth) {
        return outfitWarmth(top, bottom, coat) >= warmth && canBeWorn(top, bottom, coat);
    }

    private int countOutfitsOf(int top, int bottom, int warmth) {
        if (!canBeWorn(top, bottom, NONE)) {
            return 0;
        }
        int count = 0;
        for (int coat = NONE; coat < added; coat++) {
            if (isWarmOutfit(top, bottom, coat, warmth)) {
                count++;
            }
        }
        return count;
    }

    private int countBottomsFor(int topColour) {
        int count = 0;
        for (int bottom = 0; bottom < added; bottom++) {
            if (isCleanOfKind(bottom, BOTTOM) && !coloursClash(topColour, colours[bottom])) {
                count++;
            }
        }
        return count;
    }

    private static int firstSeat(int top, int bottom) {
        return (top * MAX_THINGS + bottom) * PERSONS;
    }

    private boolean wasSeenLately(int top, int bottom, int people) {
        if (!isThing(top) || !isThing(bottom)) {
            return false;
        }
        int first = firstSeat(top, bottom);
        for (int person = 0; person < PERSONS; person++) {
            if ((people >> person & 1) != 0 && today < freeFrom[first + person]) {
                return true;
            }
        }
        return false;
    }

    private void showTo(int top, int bottom, int people) {
        if (!isThing(top) || !isThing(bottom)) {
            return;
        }
        int first = firstSeat(top, bottom);
        for (int person = 0; person < PERSONS; person++) {
            if ((people >> person & 1) != 0) {
                freeFrom[first + person] = today + DAYS_TOO_SOON;
            }
        }
    }

    // ---- washing

    private boolean isWashedWith(int thing, int care, boolean isDark) {
        return isThing(thing) && cares[thing] == care
                && (colours[thing] >= FIRST_DARK_COLOUR) == isDark;
    }

    private int nextToWash(int care, boolean isDark) {
        int next = NONE;
        for (int thing = 0; thing < added; thing++) {
            if (isWashedWith(thing, care, isDark) && wearsLeft[thing] < wearsWhenClean[thing]
                    && (next == NONE || wearsLeft[thing] < wearsLeftOf(next))) {
                next = thing;
            }
        }
        return next;
    }

    // ---- packing

    private int thingsOfKind(int kind) {
        int set = 0;
        for (int thing = 0; thing < added; thing++) {
            if (isOfKind(thing, kind)) {
                set |= 1 << thing;
            }
        }
        return set;
    }

    private void findPartners(int warmth) {
        for (int thing = 0; thing < MAX_THINGS; thing++) {
            partners[thing] = 0;
        }
        for (int top = 0; top < added; top++) {
            for (int bottom = 0; bottom < added; bottom++) {
                if (arePartners(top, bottom, warmth)) {
                    partners[top] |= 1 << bottom;
                    partners[bottom] |= 1 << top;
                }
            }
        }
    }

    private boolean arePartners(int top, int bottom, int warmth) {
        return areOfTheirKinds(top, bottom, NONE) && !doClash(top, bottom)
                && outfitWarmth(top, bottom, NONE) >= warmth;
    }

    /** The things that a bag with the fewest things can have: others are in no outfit of it. */
    private int usefulThings() {
        int set = 0;
        for (int thing = 0; thing < added; thing++) {
            if (wearsLeftOf(thing) > 0 && partners[thing] != 0) {
                set |= 1 << thing;
            }
        }
        return set;
    }

    private int partnersOf(int set) {
        int all = 0;
        for (int thing = 0; thing < MAX_THINGS; thing++) {
            if ((set >> thing & 1) != 0) {
                all |= partners[thing];
            }
        }
        return all;
    }

    private int wearsLeftIn(int set) {
        int sum = 0;
        for (int thing = 0; thing < MAX_THINGS; thing++) {
            if ((set >> thing & 1) != 0) {
                sum += wearsLeft[thing];
            }
        }
        return sum;
    }

    /** The parts of a set as numbers, upwards from 0; after the whole set comes 0 again. */
    private static int nextPart(int part, int whole) {
        return (part - whole) & whole;
    }

    /**
     * Whether the tops and bottoms last for the days, as findPartners has paired them.
     *
     * If a set has a thing of every outfit, there are no more days than the set has wears left; and
     * the set with the fewest wears left allows just that many days (Koenig's theorem). So each such
     * set is looked at: some things of one side, and the partners of those that it leaves out. The
     * side with fewer things has fewer parts to try.
     */
    private boolean lasts(int tops, int bottoms, int days) {
        boolean areTopsFewer = Integer.bitCount(tops) < Integer.bitCount(bottoms);
        int few = areTopsFewer ? tops : bottoms;
        int many = areTopsFewer ? bottoms : tops;
        int leftOut = 0;
        for (int rest = 1 << Integer.bitCount(few); rest > 0; rest--) {
            if (wearsLeftIn(few & ~leftOut) + wearsLeftIn(many & partnersOf(leftOut)) < days) {
                return false;
            }
            leftOut = nextPart(leftOut, few);
        }
        return true;
    }
}
