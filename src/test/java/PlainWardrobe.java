import java.util.ArrayList;
import java.util.Arrays;
import java.util.List;

/**
 * The document once more, as plainly and as unlike WardrobeKeeper as it goes: lists, a diary of all
 * that was worn, and bags that are packed by looking for one more outfit again and again.
 */
final class PlainWardrobe {
    private static final class Thing {
        int number, kind, colour, warmth, wears, care, worn;
        boolean isGone;

        int left() {
            return wears - worn;
        }

        boolean isDark() {
            return colour >= 4;
        }
    }

    private record Entry(int day, int top, int bottom, int people) {
    }

    private final List<Thing> all = new ArrayList<>();
    private final List<Entry> diary = new ArrayList<>();
    private final boolean[][] clash = new boolean[8][8];
    private int today = 0;

    private static void range(int value, int from, int to) {
        if (value < from || value > to) {
            throw new IllegalArgumentException();
        }
    }

    private Thing get(int number) {
        for (Thing thing : all) {
            if (thing.number == number && !thing.isGone) {
                return thing;
            }
        }
        throw new IndexOutOfBoundsException();
    }

    private List<Thing> of(int kind) {
        List<Thing> found = new ArrayList<>();
        for (Thing thing : all) {
            if (thing.kind == kind && !thing.isGone) {
                found.add(thing);
            }
        }
        return found;
    }

    int add(int kind, int colour, int warmth, int wears, int care) {
        range(kind, 0, 2);
        range(colour, 0, 7);
        range(warmth, 0, 10);
        range(wears, 1, 9);
        range(care, 0, 2);
        if (all.size() == 12) {
            throw new IllegalStateException();
        }
        Thing thing = new Thing();
        thing.number = all.size();
        thing.kind = kind;
        thing.colour = colour;
        thing.warmth = warmth;
        thing.wears = wears;
        thing.care = care;
        all.add(thing);
        return thing.number;
    }

    int giveAway(int thing) {
        get(thing).isGone = true;
        return things();
    }

    boolean setClash(int colour, int other, boolean doClash) {
        range(colour, 0, 7);
        range(other, 0, 7);
        boolean did = clash[colour][other];
        clash[colour][other] = doClash;
        clash[other][colour] = doClash;
        return did;
    }

    int things() {
        return of(0).size() + of(1).size() + of(2).size();
    }

    int left(int thing) {
        return get(thing).left();
    }

    private void expectKind(Thing thing, int kind) {
        if (thing.kind != kind) {
            throw new IllegalArgumentException();
        }
    }

    private boolean isPossible(List<Thing> outfit) {
        for (int i = 0; i < outfit.size(); i++) {
            if (outfit.get(i).left() == 0) {
                return false;
            }
            for (int j = 0; j < i; j++) {
                if (clash[outfit.get(i).colour][outfit.get(j).colour]) {
                    return false;
                }
            }
        }
        return true;
    }

    private List<Thing> dress(int top, int bottom, int coat) {
        List<Thing> outfit = new ArrayList<>(List.of(get(top), get(bottom)));
        if (coat != -1) {
            outfit.add(get(coat));
        }
        return outfit;
    }

    private void expectKinds(List<Thing> outfit) {
        for (int i = 0; i < outfit.size(); i++) {
            expectKind(outfit.get(i), i);
        }
    }

    private static int warmth(List<Thing> outfit) {
        return outfit.stream().mapToInt(thing -> thing.warmth).sum();
    }

    boolean isPossible(int top, int bottom, int coat) {
        List<Thing> outfit = dress(top, bottom, coat);
        expectKinds(outfit);
        return isPossible(outfit);
    }

    boolean isTooSoon(int top, int bottom, int people) {
        expectKinds(dress(top, bottom, -1));
        range(people, 0, 255);
        for (Entry entry : diary) {
            if (entry.top == top && entry.bottom == bottom && (entry.people & people) != 0
                    && today - entry.day < 7) {
                return true;
            }
        }
        return false;
    }

    int wear(int top, int bottom, int coat, int people) {
        List<Thing> outfit = dress(top, bottom, coat);
        expectKinds(outfit);
        range(people, 0, 255);
        if (!isPossible(outfit) || isTooSoon(top, bottom, people)) {
            throw new IllegalStateException();
        }
        for (Thing thing : outfit) {
            thing.worn++;
        }
        diary.add(new Entry(today, top, bottom, people));
        return warmth(outfit);
    }

    /** The possible outfits with the least warmth, by top, then bottom, then without a coat first. */
    private List<List<Thing>> possible(int leastWarmth) {
        List<List<Thing>> found = new ArrayList<>();
        for (Thing top : of(0)) {
            for (Thing bottom : of(1)) {
                found.add(List.of(top, bottom));
                for (Thing coat : of(2)) {
                    found.add(List.of(top, bottom, coat));
                }
            }
        }
        found.removeIf(outfit -> !isPossible(outfit) || warmth(outfit) < leastWarmth);
        return found;
    }

    int outfits(int warmth) {
        range(warmth, 0, 30);
        return possible(warmth).size();
    }

    int adds(int thing, int warmth) {
        Thing asked = get(thing);
        range(warmth, 0, 30);
        return (int) possible(warmth).stream().filter(outfit -> outfit.contains(asked)).count();
    }

    int missingTop() {
        int[] brings = new int[8];
        for (Thing bottom : of(1)) {
            for (int colour = 0; colour < 8; colour++) {
                if (bottom.left() > 0 && !clash[bottom.colour][colour]) {
                    brings[colour]++;
                }
            }
        }
        int most = Arrays.stream(brings).max().getAsInt();
        int colour = 0;
        while (brings[colour] != most) {
            colour++;
        }
        return colour;
    }

    int outfitFor(int warmth, int people) {
        range(warmth, 0, 30);
        range(people, 0, 255);
        List<List<Thing>> choice = possible(warmth);
        choice.removeIf(outfit -> isTooSoon(outfit.get(0).number, outfit.get(1).number, people));
        choice.sort((one, other) -> warmth(one) - warmth(other));
        if (choice.isEmpty()) {
            return -1;
        }
        List<Thing> best = choice.get(0);
        int coat = best.size() == 3 ? best.get(2).number + 1 : 0;
        return 10000 * best.get(0).number + 100 * best.get(1).number + coat;
    }

    private List<Thing> basket(int care, boolean isDark) {
        range(care, 0, 2);
        List<Thing> found = new ArrayList<>(all);
        found.removeIf(thing -> thing.isGone || thing.care != care || thing.isDark() != isDark);
        return found;
    }

    int load(int care, boolean isDark) {
        return (int) basket(care, isDark).stream().filter(thing -> thing.left() == 0).count();
    }

    int wash(int care, boolean isDark) {
        List<Thing> basket = basket(care, isDark);
        basket.removeIf(thing -> thing.worn == 0);
        basket.sort((one, other) -> one.left() - other.left());
        int count = Math.min(5, basket.size());
        for (int i = 0; i < count; i++) {
            basket.get(i).worn = 0;
        }
        return count;
    }

    int pass(int days) {
        range(days, 1, 365);
        if (today + days > 10000) {
            throw new IllegalStateException();
        }
        today += days;
        return today;
    }

    boolean isEnough(int things, int days, int warmth) {
        for (int bit = 0; bit < 32; bit++) {
            if ((things >> bit & 1) != 0 && (bit >= all.size() || all.get(bit).isGone)) {
                throw new IllegalArgumentException();
            }
        }
        range(days, 1, 20);
        range(warmth, 0, 20);
        return packedDays(things, days, warmth) == days;
    }

    /** How many of the days get an outfit: for each, one more is found, moving others if need be. */
    private int packedDays(int things, int days, int warmth) {
        int[][] worn = new int[12][12];
        for (int day = 0; day < days; day++) {
            boolean isFound = false;
            for (Thing top : of(0)) {
                int times = Arrays.stream(worn[top.number]).sum();
                if (!isFound && (things >> top.number & 1) != 0 && times < top.left()) {
                    isFound = dressMore(top, things, warmth, worn, new boolean[12]);
                }
            }
            if (!isFound) {
                return day;
            }
        }
        return days;
    }

    private boolean dressMore(Thing top, int things, int warmth, int[][] worn, boolean[] isTried) {
        for (Thing bottom : of(1)) {
            if ((things >> bottom.number & 1) == 0 || isTried[bottom.number]
                    || clash[top.colour][bottom.colour] || top.warmth + bottom.warmth < warmth) {
                continue;
            }
            isTried[bottom.number] = true;
            int times = 0;
            for (int[] row : worn) {
                times += row[bottom.number];
            }
            if (times < bottom.left()) {
                worn[top.number][bottom.number]++;
                return true;
            }
            for (Thing other : of(0)) {
                if (worn[other.number][bottom.number] > 0
                        && dressMore(other, things, warmth, worn, isTried)) {
                    worn[other.number][bottom.number]--;
                    worn[top.number][bottom.number]++;
                    return true;
                }
            }
        }
        return false;
    }

    int bag(int days, int warmth) {
        range(days, 1, 20);
        range(warmth, 0, 20);
        int packable = 0;
        for (int kind = 0; kind < 2; kind++) {
            for (Thing thing : of(kind)) {
                packable |= 1 << thing.number;
            }
        }
        for (int size = 2; size <= 12; size++) {
            for (int bag = 0; bag < 4096; bag++) {
                if ((bag & ~packable) == 0 && Integer.bitCount(bag) == size
                        && packedDays(bag, days, warmth) == days) {
                    return bag;
                }
            }
        }
        return 0;
    }
}
