/** Wardrobes to look at: things are told as {kind, colour, warmth, wears, care}. */
final class Wardrobes {
    static final int NONE = WardrobeKeeper.NONE;

    private Wardrobes() {
    }

    static WardrobeKeeper with(int[]... things) {
        WardrobeKeeper x = new WardrobeKeeper();
        for (int[] v : things) {
            x.add(v[0], v[1], v[2], v[3], v[4]);
        }
        return x;
    }

    static int[] top(int colour, int warmth, int wears) {
        return new int[] {WardrobeKeeper.TOP, colour, warmth, wears, 0};
    }

    static int[] bottom(int colour, int warmth, int wears) {
        return new int[] {WardrobeKeeper.BOTTOM, colour, warmth, wears, 0};
    }

    static int[] coat(int colour, int warmth, int wears) {
        return new int[] {WardrobeKeeper.COAT, colour, warmth, wears, 0};
    }

    /** The thing 0 is a top of colour 1, 1 a bottom of colour 2, 2 a coat of colour 5. */
    static WardrobeKeeper ofThree() {
        return with(top(1, 2, 3), bottom(2, 3, 4), coat(5, 7, 5));
    }

    /** Things 0, 2, .. 10 are tops, 1, 3, .. 11 bottoms, all of colour 0, warmth 1 and care 0. */
    static WardrobeKeeper ofSixAndSix(int wears) {
        WardrobeKeeper x = new WardrobeKeeper();
        for (int i = 0; i < 6; i++) {
            x.add(WardrobeKeeper.TOP, 0, 1, wears, 0);
            x.add(WardrobeKeeper.BOTTOM, 0, 1, wears, 0);
        }
        return x;
    }

    /** Four tops, 0 to 3, four bottoms, 4 to 7, and four coats, 8 to 11, each of warmth 10. */
    static WardrobeKeeper ofFourOfEach() {
        WardrobeKeeper x = new WardrobeKeeper();
        for (int thing = 0; thing < 12; thing++) {
            x.add(thing / 4, 0, 10, 9, 0);
        }
        return x;
    }

    /** Lets days pass until the day is reached, with the fewest calls. */
    static void passUntil(WardrobeKeeper x, int from, int day) {
        int today = from;
        while (today < day) {
            today = x.pass(Math.min(365, day - today));
        }
    }
}
