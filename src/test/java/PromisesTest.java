/** Each promise of the document by number: ordinary inputs, the edges, and wrong inputs. */
public final class PromisesTest {
    private static final String INDEX = "IndexOutOfBoundsException";
    private static final String ARGUMENT = "IllegalArgumentException";
    private static final String STATE = "IllegalStateException";
    private static final int NONE = WardrobeKeeper.NONE;
    private static final int[] FAR = {Integer.MIN_VALUE, Integer.MAX_VALUE};
    private static final int[] NO_THINGS = {-2, 3, 12, 31, 32, Integer.MIN_VALUE, Integer.MAX_VALUE};

    private final Checks checks = new Checks();

    public static void main(String[] args) {
        PromisesTest test = new PromisesTest();
        test.promise1NewObject();
        test.promise2Add();
        test.promise3GiveAway();
        test.promise4SetClash();
        test.promise5Things();
        test.promise6Left();
        test.promise7IsPossible();
        test.promise8IsTooSoon();
        test.promise9Wear();
        test.promise9WearThatThrowsChangesNothing();
        test.promise10Outfits();
        test.promise11Adds();
        test.promise12MissingTop();
        test.promise13OutfitFor();
        test.promise14Load();
        test.promise15Wash();
        test.promise16Pass();
        test.promise17IsEnough();
        test.promise17IsEnoughByPairs();
        test.promise18Bag();
        test.promise18BagAtItsLargest();
        test.checks.end("PromisesTest");
    }

    private static WardrobeKeeper withTopBottomCoat() {
        WardrobeKeeper x = new WardrobeKeeper();
        x.add(0, 1, 2, 3, 0);
        x.add(1, 2, 3, 4, 1);
        x.add(2, 5, 7, 5, 2);
        return x;
    }

    private void promise1NewObject() {
        WardrobeKeeper x = new WardrobeKeeper();
        checks.due("1 things", 0, x::things);
        checks.due("1 left(0)", INDEX, () -> x.left(0));
        checks.due("1 outfits", 0, () -> x.outfits(0));
        checks.due("1 missingTop", 0, x::missingTop);
        checks.due("1 outfitFor", NONE, () -> x.outfitFor(0, 255));
        checks.due("1 bag", 0, () -> x.bag(1, 0));
        for (int colour = 0; colour < 8; colour++) {
            for (int other = 0; other < 8; other++) {
                int one = colour;
                int two = other;
                checks.due("1 no clash", false, () -> x.setClash(one, two, false));
            }
        }
        checks.due("1 today is 0", 1, () -> x.pass(1));
        checks.due("1 objects do not share", 0, () -> {
            withTopBottomCoat().pass(3);
            return new WardrobeKeeper().things();
        });
    }

    private void promise2Add() {
        WardrobeKeeper x = new WardrobeKeeper();
        int[] least = {0, 0, 0, 1, 0};
        int[] most = {2, 7, 10, 9, 2};
        for (int place = 0; place < 5; place++) {
            for (int wrong : new int[] {least[place] - 1, most[place] + 1, FAR[0], FAR[1]}) {
                int[] v = least.clone();
                v[place] = wrong;
                checks.due("2 add wrong " + place, ARGUMENT, () -> x.add(v[0], v[1], v[2], v[3], v[4]));
            }
        }
        checks.due("2 nothing was added", 0, x::things);
        checks.due("2 the least", 0, () -> x.add(0, 0, 0, 1, 0));
        checks.due("2 the most", 1, () -> x.add(2, 7, 10, 9, 2));
        checks.due("2 clean", 1, () -> x.left(0));
        checks.due("2 clean", 9, () -> x.left(1));
        checks.due("2 gone", 1, () -> x.giveAway(0));
        for (int thing = 2; thing < 12; thing++) {
            int want = thing;
            checks.due("2 numbers are not used again", want, () -> x.add(1, 0, 0, 4, 0));
        }
        checks.due("2 twelve were added", STATE, () -> x.add(1, 0, 0, 4, 0));
        checks.due("2 the first that is listed", ARGUMENT, () -> x.add(3, 0, 0, 4, 0));
        checks.due("2 still", 11, x::things);
    }

    private void promise3GiveAway() {
        WardrobeKeeper x = withTopBottomCoat();
        for (int wrong : NO_THINGS) {
            checks.due("3 no thing " + wrong, INDEX, () -> x.giveAway(wrong));
        }
        checks.due("3 NONE", INDEX, () -> x.giveAway(NONE));
        checks.due("3 all are there", 3, x::things);
        checks.due("3 away", 2, () -> x.giveAway(1));
        checks.due("3 away again", INDEX, () -> x.giveAway(1));
        checks.due("3 no outfit", 0, () -> x.outfits(0));
        checks.due("3 not to be asked for", INDEX, () -> x.isPossible(0, 1, NONE));
        checks.due("3 not to be worn", INDEX, () -> x.wear(0, 1, NONE, 0));
        checks.due("3 away", 1, () -> x.giveAway(0));
        checks.due("3 the last", 0, () -> x.giveAway(2));
        checks.due("3 no load", 0, () -> x.load(0, false));
    }

    private void promise4SetClash() {
        WardrobeKeeper x = new WardrobeKeeper();
        for (int wrong : new int[] {-1, 8, 64, FAR[0], FAR[1]}) {
            checks.due("4 colour " + wrong, ARGUMENT, () -> x.setClash(wrong, 0, true));
            checks.due("4 other " + wrong, ARGUMENT, () -> x.setClash(0, wrong, true));
        }
        checks.due("4 did not", false, () -> x.setClash(1, 6, true));
        checks.due("4 did", true, () -> x.setClash(1, 6, true));
        checks.due("4 both ways", true, () -> x.setClash(6, 1, false));
        checks.due("4 no more", false, () -> x.setClash(1, 6, false));
        checks.due("4 the same", false, () -> x.setClash(7, 7, true));
        checks.due("4 the same did", true, () -> x.setClash(7, 7, true));
        checks.due("4 no other", false, () -> x.setClash(7, 6, false));
        checks.due("4 still", true, () -> x.setClash(7, 7, false));
    }

    private void promise5Things() {
        WardrobeKeeper x = withTopBottomCoat();
        checks.due("5 three", 3, x::things);
        x.giveAway(0);
        checks.due("5 two", 2, x::things);
        x.add(0, 0, 0, 1, 0);
        checks.due("5 three again", 3, x::things);
    }

    private void promise6Left() {
        WardrobeKeeper x = withTopBottomCoat();
        for (int wrong : NO_THINGS) {
            checks.due("6 no thing " + wrong, INDEX, () -> x.left(wrong));
        }
        checks.due("6 NONE", INDEX, () -> x.left(NONE));
        x.wear(0, 1, 2, 0);
        x.wear(0, 1, NONE, 0);
        checks.due("6 top", 1, () -> x.left(0));
        checks.due("6 bottom", 2, () -> x.left(1));
        checks.due("6 coat", 4, () -> x.left(2));
        x.wear(0, 1, NONE, 0);
        checks.due("6 not clean", 0, () -> x.left(0));
        x.wash(0, false);
        checks.due("6 clean", 3, () -> x.left(0));
        x.giveAway(0);
        checks.due("6 given away", INDEX, () -> x.left(0));
    }

    private void promise7IsPossible() {
        WardrobeKeeper x = withTopBottomCoat();
        for (int wrong : NO_THINGS) {
            checks.due("7 top " + wrong, INDEX, () -> x.isPossible(wrong, 1, 2));
            checks.due("7 bottom " + wrong, INDEX, () -> x.isPossible(0, wrong, 2));
            checks.due("7 coat " + wrong, INDEX, () -> x.isPossible(0, 1, wrong));
            checks.due("7 index first", INDEX, () -> x.isPossible(1, 1, wrong));
        }
        checks.due("7 NONE is no top", INDEX, () -> x.isPossible(NONE, 1, 2));
        checks.due("7 NONE is no bottom", INDEX, () -> x.isPossible(0, NONE, 2));
        checks.due("7 top of another kind", ARGUMENT, () -> x.isPossible(1, 1, NONE));
        checks.due("7 bottom of another kind", ARGUMENT, () -> x.isPossible(0, 2, NONE));
        checks.due("7 coat of another kind", ARGUMENT, () -> x.isPossible(0, 1, 0));
        checks.due("7 without a coat", true, () -> x.isPossible(0, 1, NONE));
        checks.due("7 with a coat", true, () -> x.isPossible(0, 1, 2));
        int[][] pairs = {{1, 2}, {1, 5}, {2, 5}};
        for (int[] pair : pairs) {
            x.setClash(pair[0], pair[1], true);
            boolean isWithoutCoat = pair[1] == 5;
            checks.due("7 clash without a coat", isWithoutCoat, () -> x.isPossible(0, 1, NONE));
            checks.due("7 clash with a coat", false, () -> x.isPossible(0, 1, 2));
            x.setClash(pair[1], pair[0], false);
        }
        x.setClash(1, 1, true);
        checks.due("7 a thing does not clash with itself", true, () -> x.isPossible(0, 1, 2));
        x.add(1, 1, 0, 1, 0);
        checks.due("7 two things of a colour clash if told", false, () -> x.isPossible(0, 3, NONE));
        x.setClash(1, 1, false);
        checks.due("7 else they do not", true, () -> x.isPossible(0, 3, NONE));
        x.wear(0, 3, NONE, 255);
        checks.due("7 the bottom is not clean", false, () -> x.isPossible(0, 3, NONE));
        checks.due("7 too soon does not matter", true, () -> {
            x.wear(0, 1, NONE, 255);
            return x.isPossible(0, 1, NONE);
        });
        x.wear(0, 1, NONE, 0);
        checks.due("7 the top is not clean", false, () -> x.isPossible(0, 1, NONE));
        WardrobeKeeper y = withTopBottomCoat();
        y.add(2, 5, 7, 1, 2);
        y.wear(0, 1, 3, 0);
        checks.due("7 the coat is not clean", false, () -> y.isPossible(0, 1, 3));
        checks.due("7 the others are", true, () -> y.isPossible(0, 1, NONE));
    }

    private void promise8IsTooSoon() {
        WardrobeKeeper x = withTopBottomCoat();
        for (int wrong : NO_THINGS) {
            checks.due("8 top " + wrong, INDEX, () -> x.isTooSoon(wrong, 1, 1));
            checks.due("8 bottom " + wrong, INDEX, () -> x.isTooSoon(0, wrong, 256));
        }
        checks.due("8 NONE", INDEX, () -> x.isTooSoon(0, NONE, 1));
        checks.due("8 top of another kind", ARGUMENT, () -> x.isTooSoon(2, 1, 1));
        checks.due("8 bottom of another kind", ARGUMENT, () -> x.isTooSoon(0, 0, 1));
        for (int wrong : new int[] {-1, 256, FAR[0], FAR[1]}) {
            checks.due("8 people " + wrong, ARGUMENT, () -> x.isTooSoon(0, 1, wrong));
        }
        checks.due("8 never worn", false, () -> x.isTooSoon(0, 1, 255));
        x.add(0, 1, 2, 3, 0);
        x.add(1, 2, 3, 4, 1);
        x.pass(20);
        x.wear(0, 1, 2, 0b10000001);
        checks.due("8 whichever coat", true, () -> x.isTooSoon(0, 1, 1));
        checks.due("8 the last person", true, () -> x.isTooSoon(0, 1, 128));
        checks.due("8 one of them", true, () -> x.isTooSoon(0, 1, 255));
        checks.due("8 others", false, () -> x.isTooSoon(0, 1, 0b01111110));
        checks.due("8 nobody", false, () -> x.isTooSoon(0, 1, 0));
        checks.due("8 another top", false, () -> x.isTooSoon(3, 1, 255));
        checks.due("8 another bottom", false, () -> x.isTooSoon(0, 4, 255));
        x.pass(3);
        x.wear(0, 1, NONE, 2);
        x.pass(3);
        checks.due("8 six days ago", true, () -> x.isTooSoon(0, 1, 1));
        x.pass(1);
        checks.due("8 seven days ago", false, () -> x.isTooSoon(0, 1, 0b11111101));
        checks.due("8 four days ago", true, () -> x.isTooSoon(0, 1, 2));
        x.pass(3);
        checks.due("8 both are over", false, () -> x.isTooSoon(0, 1, 255));
    }

    private void promise9Wear() {
        WardrobeKeeper x = withTopBottomCoat();
        for (int wrong : NO_THINGS) {
            checks.due("9 top " + wrong, INDEX, () -> x.wear(wrong, 1, NONE, 1));
            checks.due("9 bottom " + wrong, INDEX, () -> x.wear(0, wrong, NONE, -1));
            checks.due("9 coat " + wrong, INDEX, () -> x.wear(1, 1, wrong, 1));
        }
        checks.due("9 top of another kind", ARGUMENT, () -> x.wear(1, 1, NONE, 1));
        checks.due("9 bottom of another kind", ARGUMENT, () -> x.wear(0, 0, NONE, 1));
        checks.due("9 coat of another kind", ARGUMENT, () -> x.wear(0, 1, 1, 1));
        checks.due("9 people", ARGUMENT, () -> x.wear(0, 1, NONE, 256));
        checks.due("9 people", ARGUMENT, () -> x.wear(0, 1, NONE, -1));
        checks.due("9 with a coat", 12, () -> x.wear(0, 1, 2, 1));
        checks.due("9 too soon", STATE, () -> x.wear(0, 1, NONE, 3));
        checks.due("9 people first", ARGUMENT, () -> x.wear(0, 1, NONE, 257));
        checks.due("9 without a coat", 5, () -> x.wear(0, 1, NONE, 2));
        checks.due("9 the first saw it", true, () -> x.isTooSoon(0, 1, 1));
        x.setClash(1, 5, true);
        checks.due("9 the coat clashes", STATE, () -> x.wear(0, 1, 2, 0));
        checks.due("9 more than once a day", 5, () -> x.wear(0, 1, NONE, 0));
        checks.due("9 the top is not clean", STATE, () -> x.wear(0, 1, NONE, 0));
        checks.due("9 top", 0, () -> x.left(0));
        checks.due("9 bottom", 1, () -> x.left(1));
        checks.due("9 coat", 4, () -> x.left(2));
    }

    private void promise9WearThatThrowsChangesNothing() {
        WardrobeKeeper x = withTopBottomCoat();
        x.setClash(2, 5, true);
        Checks.answerOf(() -> x.wear(0, 1, 2, 255));
        Checks.answerOf(() -> x.wear(0, 1, NONE, 256));
        Checks.answerOf(() -> x.wear(0, 1, 1, 255));
        checks.due("9 top", 3, () -> x.left(0));
        checks.due("9 bottom", 4, () -> x.left(1));
        checks.due("9 coat", 5, () -> x.left(2));
        checks.due("9 nobody saw it", false, () -> x.isTooSoon(0, 1, 255));
        x.wear(0, 1, NONE, 1);
        x.pass(4);
        Checks.answerOf(() -> x.wear(0, 1, NONE, 1));
        checks.due("9 not worn", 2, () -> x.left(0));
        x.pass(3);
        checks.due("9 seen on the first day alone", false, () -> x.isTooSoon(0, 1, 1));
    }

    private void promise10Outfits() {
        WardrobeKeeper x = withTopBottomCoat();
        for (int wrong : new int[] {-1, 31, FAR[0], FAR[1]}) {
            checks.due("10 warmth " + wrong, ARGUMENT, () -> x.outfits(wrong));
        }
        checks.due("10 with and without", 2, () -> x.outfits(0));
        checks.due("10 just warm enough", 2, () -> x.outfits(5));
        checks.due("10 with the coat", 1, () -> x.outfits(6));
        checks.due("10 just warm enough", 1, () -> x.outfits(12));
        checks.due("10 too cold", 0, () -> x.outfits(13));
        checks.due("10 the warmest", 0, () -> x.outfits(30));
        x.add(0, 5, 10, 1, 0);
        x.add(1, 5, 10, 1, 0);
        x.add(2, 5, 10, 1, 0);
        checks.due("10 all", 12, () -> x.outfits(0));
        checks.due("10 the warmest", 1, () -> x.outfits(30));
        x.setClash(5, 5, true);
        checks.due("10 no two of colour 5", 5, () -> x.outfits(0));
        x.wear(0, 4, NONE, 255);
        checks.due("10 the bottom is not clean", 4, () -> x.outfits(0));
        x.wear(0, 1, 5, 255);
        checks.due("10 the coat is not clean", 3, () -> x.outfits(0));
        x.giveAway(2);
        checks.due("10 a coat is gone", 2, () -> x.outfits(0));
    }

    private void promise11Adds() {
        WardrobeKeeper x = withTopBottomCoat();
        for (int wrong : NO_THINGS) {
            checks.due("11 no thing " + wrong, INDEX, () -> x.adds(wrong, 31));
        }
        checks.due("11 NONE", INDEX, () -> x.adds(NONE, 0));
        checks.due("11 warmth", ARGUMENT, () -> x.adds(0, -1));
        checks.due("11 warmth", ARGUMENT, () -> x.adds(0, 31));
        x.add(0, 3, 6, 1, 0);
        x.add(2, 0, 1, 1, 0);
        checks.due("11 top", 3, () -> x.adds(0, 0));
        checks.due("11 other top", 3, () -> x.adds(3, 0));
        checks.due("11 bottom", 6, () -> x.adds(1, 0));
        checks.due("11 coat", 2, () -> x.adds(2, 0));
        checks.due("11 top, warm", 1, () -> x.adds(0, 7));
        checks.due("11 bottom, warm", 4, () -> x.adds(1, 7));
        checks.due("11 coat, warm", 1, () -> x.adds(4, 7));
        checks.due("11 coat, warmest", 1, () -> x.adds(2, 16));
        checks.due("11 coat, too cold", 0, () -> x.adds(2, 17));
        x.setClash(3, 5, true);
        checks.due("11 coat that clashes", 1, () -> x.adds(2, 0));
        x.wear(3, 1, NONE, 0);
        checks.due("11 not clean", 0, () -> x.adds(3, 0));
        checks.due("11 fewer for the bottom", 3, () -> x.adds(1, 0));
        x.giveAway(3);
        checks.due("11 given away", INDEX, () -> x.adds(3, 0));
    }

    private void promise12MissingTop() {
        WardrobeKeeper x = new WardrobeKeeper();
        x.add(1, 0, 0, 1, 0);
        x.add(1, 1, 0, 1, 0);
        x.add(1, 5, 0, 9, 0);
        x.add(0, 0, 0, 9, 0);
        x.add(2, 2, 0, 9, 0);
        checks.due("12 the lowest of all", 0, x::missingTop);
        x.setClash(0, 0, true);
        checks.due("12 colour 0 clashes with itself", 1, x::missingTop);
        x.setClash(1, 5, true);
        checks.due("12 colour 1 clashes too", 2, x::missingTop);
        x.setClash(2, 2, true);
        checks.due("12 a coat does not matter", 2, x::missingTop);
        for (int colour = 2; colour < 7; colour++) {
            x.setClash(colour, 1, true);
        }
        checks.due("12 the last colour", 7, x::missingTop);
        x.setClash(7, 1, true);
        checks.due("12 all clash with one", 0, x::missingTop);
        x.wear(3, 1, NONE, 0);
        checks.due("12 a bottom that is not clean", 2, x::missingTop);
        x.giveAway(2);
        checks.due("12 a bottom that is gone", 1, x::missingTop);
        x.giveAway(0);
        checks.due("12 no bottom", 0, x::missingTop);
    }

    private void promise13OutfitFor() {
        WardrobeKeeper x = withTopBottomCoat();
        checks.due("13 warmth", ARGUMENT, () -> x.outfitFor(-1, 0));
        checks.due("13 warmth", ARGUMENT, () -> x.outfitFor(31, 0));
        checks.due("13 people", ARGUMENT, () -> x.outfitFor(0, -1));
        checks.due("13 people", ARGUMENT, () -> x.outfitFor(0, 256));
        checks.due("13 without a coat", 100, () -> x.outfitFor(5, 255));
        checks.due("13 with the coat", 103, () -> x.outfitFor(6, 255));
        checks.due("13 just warm enough", 103, () -> x.outfitFor(12, 255));
        checks.due("13 too cold", NONE, () -> x.outfitFor(13, 255));
        x.add(0, 0, 2, 1, 0);
        x.add(1, 0, 3, 1, 0);
        x.add(2, 0, 7, 1, 0);
        x.add(2, 0, 0, 1, 0);
        checks.due("13 lowest top, bottom, no coat", 100, () -> x.outfitFor(0, 1));
        checks.due("13 lowest coat", 103, () -> x.outfitFor(6, 1));
        x.wear(0, 1, NONE, 1);
        checks.due("13 too soon: the next bottom", 400, () -> x.outfitFor(0, 1));
        checks.due("13 not for others", 100, () -> x.outfitFor(0, 2));
        x.wear(0, 4, NONE, 1);
        checks.due("13 not clean: the next top", 30100, () -> x.outfitFor(0, 1));
        x.add(0, 0, 1, 1, 0);
        checks.due("13 the least warmth, not the lowest", 70100, () -> x.outfitFor(0, 1));
        checks.due("13 warmth 5 by top 3", 30100, () -> x.outfitFor(5, 1));
        x.giveAway(3);
        checks.due("13 warmth 11 by top 7", 70103, () -> x.outfitFor(5, 1));
        x.setClash(0, 5, true);
        checks.due("13 the next coat", 70106, () -> x.outfitFor(5, 1));
        checks.due("13 far in the row", NONE, () -> x.outfitFor(12, 1));
        x.pass(7);
        checks.due("13 no more too soon", 100, () -> x.outfitFor(5, 1));
    }

    private void promise14Load() {
        WardrobeKeeper x = new WardrobeKeeper();
        x.add(0, 3, 0, 1, 1);
        x.add(1, 4, 0, 1, 1);
        x.add(0, 0, 0, 1, 1);
        x.add(1, 7, 0, 2, 1);
        x.add(2, 4, 0, 1, 2);
        for (int wrong : new int[] {-1, 3, FAR[0], FAR[1]}) {
            checks.due("14 care " + wrong, ARGUMENT, () -> x.load(wrong, true));
        }
        checks.due("14 all are clean", 0, () -> x.load(1, false));
        x.wear(0, 1, 4, 0);
        x.wear(2, 3, NONE, 0);
        checks.due("14 light", 2, () -> x.load(1, false));
        checks.due("14 dark, one still clean", 1, () -> x.load(1, true));
        checks.due("14 dark, other care", 1, () -> x.load(2, true));
        checks.due("14 light, other care", 0, () -> x.load(2, false));
        checks.due("14 no such care", 0, () -> x.load(0, true));
        x.giveAway(0);
        checks.due("14 given away", 1, () -> x.load(1, false));
        WardrobeKeeper y = wornOut(6);
        checks.due("14 more than 5", 6, () -> y.load(0, false));
    }

    /** So many tops, and a bottom, all light: the tops are not clean, and the bottom is given away. */
    private static WardrobeKeeper wornOut(int tops) {
        WardrobeKeeper x = new WardrobeKeeper();
        int bottom = x.add(1, 0, 0, 9, 0);
        for (int i = 0; i < tops; i++) {
            x.wear(x.add(0, i % 4, 0, 1, 0), bottom, NONE, 0);
        }
        x.giveAway(bottom);
        return x;
    }

    private void promise15Wash() {
        for (int wrong : new int[] {-1, 3, FAR[0], FAR[1]}) {
            checks.due("15 care " + wrong, ARGUMENT, () -> withTopBottomCoat().wash(wrong, true));
        }
        checks.due("15 nothing was worn", 0, () -> withTopBottomCoat().wash(0, false));
        WardrobeKeeper x = wornOut(7);
        checks.due("15 other care", 0, () -> x.wash(1, false));
        checks.due("15 dark", 0, () -> x.wash(0, true));
        checks.due("15 at most 5", 5, () -> x.wash(0, false));
        checks.due("15 the lowest numbers", 1, () -> x.left(5));
        checks.due("15 not the last", 0, () -> x.left(6));
        checks.due("15 not the last", 0, () -> x.left(7));
        checks.due("15 the others", 2, () -> x.wash(0, false));
        checks.due("15 all are clean", 0, () -> x.wash(0, false));
        washByWearsLeft();
        WardrobeKeeper z = withTopBottomCoat();
        z.wear(0, 1, 2, 0);
        checks.due("15 a coat, still clean", 1, () -> z.wash(2, true));
        checks.due("15 as new", 5, () -> z.left(2));
        checks.due("15 the others as they were", 2, () -> z.left(0));
        z.giveAway(0);
        checks.due("15 given away", 0, () -> z.wash(0, false));
        checks.due("15 still too soon", true, () -> {
            z.add(0, 0, 0, 2, 0);
            z.wear(3, 1, NONE, 1);
            z.wash(0, false);
            return z.isTooSoon(3, 1, 1);
        });
    }

    private void washByWearsLeft() {
        WardrobeKeeper x = new WardrobeKeeper();
        int[] wears = {9, 4, 3, 9, 2, 2};
        for (int each : wears) {
            x.add(0, 0, 0, each, 0);
        }
        x.add(1, 7, 0, 9, 0);
        for (int top = 0; top < 6; top++) {
            x.wear(top, 6, NONE, 0);
        }
        checks.due("15 five of six", 5, () -> x.wash(0, false));
        int[] want = {9, 4, 3, 8, 2, 2};
        for (int top = 0; top < 6; top++) {
            int thing = top;
            checks.due("15 left of " + top, want[top], () -> x.left(thing));
        }
        checks.due("15 the one with most left", 1, () -> x.wash(0, false));
        checks.due("15 is clean too", 9, () -> x.left(3));
    }

    private void promise16Pass() {
        WardrobeKeeper x = new WardrobeKeeper();
        for (int wrong : new int[] {0, -1, 366, FAR[0], FAR[1]}) {
            checks.due("16 days " + wrong, ARGUMENT, () -> x.pass(wrong));
        }
        int today = 0;
        for (int i = 0; i < 27; i++) {
            today += 365;
            int want = today;
            checks.due("16 a year", want, () -> x.pass(365));
        }
        checks.due("16 above", STATE, () -> x.pass(146));
        checks.due("16 argument first", ARGUMENT, () -> x.pass(366));
        checks.due("16 one day", 9856, () -> x.pass(1));
        checks.due("16 above", STATE, () -> x.pass(145));
        checks.due("16 the last day", 10000, () -> x.pass(144));
        checks.due("16 above", STATE, () -> x.pass(1));
        x.add(0, 0, 0, 2, 0);
        x.add(1, 0, 0, 2, 0);
        x.wear(0, 1, NONE, 1);
        checks.due("16 too soon on the last day", true, () -> x.isTooSoon(0, 1, 1));
    }

    private void promise17IsEnough() {
        WardrobeKeeper x = withTopBottomCoat();
        for (int wrong : new int[] {8, 1 << 12, 1 << 30, 11, -1, FAR[0], FAR[1]}) {
            checks.due("17 things " + wrong, ARGUMENT, () -> x.isEnough(wrong, 1, 0));
        }
        for (int wrong : new int[] {0, -1, 21, FAR[0], FAR[1]}) {
            checks.due("17 days " + wrong, ARGUMENT, () -> x.isEnough(3, wrong, 0));
        }
        for (int wrong : new int[] {-1, 21, FAR[0], FAR[1]}) {
            checks.due("17 warmth " + wrong, ARGUMENT, () -> x.isEnough(3, 1, wrong));
        }
        checks.due("17 an empty bag", false, () -> x.isEnough(0, 1, 0));
        checks.due("17 a top alone", false, () -> x.isEnough(1, 1, 0));
        checks.due("17 no bottom", false, () -> x.isEnough(5, 1, 0));
        checks.due("17 enough", true, () -> x.isEnough(3, 3, 5));
        checks.due("17 with a coat, which does not warm", false, () -> x.isEnough(7, 3, 6));
        checks.due("17 with a coat", true, () -> x.isEnough(7, 3, 5));
        checks.due("17 too many days", false, () -> x.isEnough(7, 4, 5));
        x.setClash(2, 5, true);
        checks.due("17 a coat that clashes", true, () -> x.isEnough(7, 3, 5));
        x.wear(0, 1, NONE, 255);
        checks.due("17 people do not matter", true, () -> x.isEnough(3, 2, 5));
        checks.due("17 worn once", false, () -> x.isEnough(3, 3, 5));
        x.setClash(1, 2, true);
        checks.due("17 clash", false, () -> x.isEnough(3, 1, 0));
        x.giveAway(1);
        checks.due("17 given away", ARGUMENT, () -> x.isEnough(3, 1, 0));
    }

    private void promise17IsEnoughByPairs() {
        WardrobeKeeper x = new WardrobeKeeper();
        x.add(0, 0, 10, 9, 0);
        x.add(0, 1, 5, 2, 0);
        x.add(1, 2, 10, 3, 0);
        x.add(1, 3, 5, 9, 0);
        x.setClash(0, 3, true);
        checks.due("17 the first top with one bottom alone", true, () -> x.isEnough(15, 5, 0));
        checks.due("17 not more", false, () -> x.isEnough(15, 6, 0));
        checks.due("17 both pairs are warm", true, () -> x.isEnough(15, 5, 10));
        checks.due("17 the second is not", false, () -> x.isEnough(15, 4, 11));
        checks.due("17 the warmest", true, () -> x.isEnough(15, 3, 20));
        checks.due("17 not more", false, () -> x.isEnough(15, 4, 20));
        x.setClash(0, 3, false);
        checks.due("17 all pairs", true, () -> x.isEnough(15, 11, 0));
        checks.due("17 not more", false, () -> x.isEnough(15, 12, 0));
    }

    private void promise18Bag() {
        WardrobeKeeper x = withTopBottomCoat();
        for (int wrong : new int[] {0, -1, 21, FAR[0], FAR[1]}) {
            checks.due("18 days " + wrong, ARGUMENT, () -> x.bag(wrong, 0));
        }
        for (int wrong : new int[] {-1, 21, FAR[0], FAR[1]}) {
            checks.due("18 warmth " + wrong, ARGUMENT, () -> x.bag(1, wrong));
        }
        checks.due("18 no coat", 3, () -> x.bag(3, 5));
        checks.due("18 too many days", 0, () -> x.bag(4, 5));
        checks.due("18 too cold", 0, () -> x.bag(3, 6));
        x.add(0, 0, 9, 9, 0);
        checks.due("18 the fewest, not the least", 10, () -> x.bag(4, 5));
        checks.due("18 of several the least", 3, () -> x.bag(3, 5));
        x.add(1, 0, 0, 9, 0);
        checks.due("18 the fewest, not the least", 24, () -> x.bag(5, 0));
        checks.due("18 just warm enough", 24, () -> x.bag(9, 9));
        checks.due("18 one degree more", 10, () -> x.bag(4, 10));
        checks.due("18 for twelve days", 27, () -> x.bag(12, 0));
        checks.due("18 not for 13", 0, () -> x.bag(13, 0));
        x.setClash(0, 0, true);
        checks.due("18 by colours", 27, () -> x.bag(7, 0));
        checks.due("18 not more", 0, () -> x.bag(8, 0));
        x.wear(0, 1, NONE, 255);
        checks.due("18 worn", 0, () -> x.bag(7, 0));
        checks.due("18 still", 27, () -> x.bag(5, 0));
        x.giveAway(0);
        checks.due("18 given away", 10, () -> x.bag(3, 0));
        checks.due("18 without it", 0, () -> x.bag(4, 0));
    }

    private void promise18BagAtItsLargest() {
        WardrobeKeeper x = new WardrobeKeeper();
        for (int i = 0; i < 6; i++) {
            x.add(0, i, 10, 1, 0);
            x.add(1, i, 10, 1, 0);
        }
        for (int colour = 0; colour < 8; colour++) {
            for (int other = 0; other < 8; other++) {
                x.setClash(colour, other, colour != other);
            }
        }
        checks.due("18 all twelve", 4095, () -> x.bag(6, 20));
        checks.due("18 five pairs", 1023, () -> x.bag(5, 20));
        checks.due("18 no more", 0, () -> x.bag(7, 20));
        x.wear(2, 3, NONE, 1);
        checks.due("18 without the worn pair", 4095 - 12, () -> x.bag(5, 0));
        checks.due("18 lowest pairs", 51, () -> x.bag(2, 0));
    }
}
