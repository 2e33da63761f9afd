import java.io.IOException;
import java.lang.reflect.Method;
import java.lang.reflect.Modifier;
import java.nio.file.Files;
import java.nio.file.Path;
import java.util.ArrayList;
import java.util.Iterator;
import java.util.List;

/** The example in README.md: its calls answer as the page says, and each call of the face is in it. */
public final class ReadmeTest {
    private static final int TOP = WardrobeKeeper.TOP;
    private static final int BOTTOM = WardrobeKeeper.BOTTOM;
    private static final int COAT = WardrobeKeeper.COAT;
    private static final int NONE = WardrobeKeeper.NONE;

    private final Checks checks = new Checks();
    private final List<String> example;
    private final Iterator<String> lines;

    private ReadmeTest(List<String> example) {
        this.example = example;
        this.lines = example.iterator();
    }

    public static void main(String[] args) throws IOException {
        ReadmeTest test = new ReadmeTest(exampleIn(Files.readAllLines(Path.of("README.md"))));
        test.callsOfTheExample();
        test.callsOfTheFace();
        test.checks.end("ReadmeTest");
    }

    private static List<String> exampleIn(List<String> page) {
        List<String> found = new ArrayList<>();
        for (String line : page) {
            if (line.startsWith("    keeper.")) {
                found.add(line.trim());
            }
        }
        return found;
    }

    private void callsOfTheExample() {
        WardrobeKeeper x = new WardrobeKeeper();
        next("add(WardrobeKeeper.TOP, 1, 3, 2, 0)", () -> x.add(TOP, 1, 3, 2, 0));
        next("add(WardrobeKeeper.BOTTOM, 6, 4, 3, 1)", () -> x.add(BOTTOM, 6, 4, 3, 1));
        next("add(WardrobeKeeper.COAT, 2, 8, 9, 2)", () -> x.add(COAT, 2, 8, 9, 2));
        next("add(WardrobeKeeper.TOP, 5, 4, 1, 0)", () -> x.add(TOP, 5, 4, 1, 0));
        next("setClash(2, 5, true)", () -> x.setClash(2, 5, true));
        next("isPossible(3, 1, 2)", () -> x.isPossible(3, 1, 2));
        next("outfits(0)", () -> x.outfits(0));
        next("adds(2, 0)", () -> x.adds(2, 0));
        next("missingTop()", x::missingTop);
        next("outfitFor(5, 1)", () -> x.outfitFor(5, 1));
        next("outfitFor(10, 1)", () -> x.outfitFor(10, 1));
        next("wear(0, 1, WardrobeKeeper.NONE, 1 << 4)", () -> x.wear(0, 1, NONE, 1 << 4));
        next("isTooSoon(0, 1, 1 << 4)", () -> x.isTooSoon(0, 1, 1 << 4));
        next("wear(0, 1, 2, 1 << 4)", () -> x.wear(0, 1, 2, 1 << 4));
        next("left(0)", () -> x.left(0));
        next("load(0, false)", () -> x.load(0, false));
        next("wash(0, false)", () -> x.wash(0, false));
        next("pass(7)", () -> x.pass(7));
        next("isTooSoon(0, 1, 1 << 4)", () -> x.isTooSoon(0, 1, 1 << 4));
        next("isEnough(1 << 0 | 1 << 1, 3, 0)", () -> x.isEnough(1 << 0 | 1 << 1, 3, 0));
        next("bag(2, 0)", () -> x.bag(2, 0));
        next("bag(3, 0)", () -> x.bag(3, 0));
        next("giveAway(3)", () -> x.giveAway(3));
        next("left(3)", () -> x.left(3));
        next("things()", x::things);
        checks.due("README.md: the example is at its end", false, lines::hasNext);
    }

    /** The next line of the example is this call, and the answer behind it is the program's. */
    private void next(String text, Checks.Call call) {
        String line = lines.hasNext() ? lines.next() : "";
        checks.due("README.md: the call of the line " + line, true,
                () -> line.startsWith("keeper." + text + "; "));
        String told = line.replaceFirst("^.*// ", "").replaceFirst(":.*$", "");
        checks.due("README.md: " + line, told, () -> String.valueOf(Checks.answerOf(call)));
    }

    private void callsOfTheFace() {
        for (Method method : WardrobeKeeper.class.getDeclaredMethods()) {
            if (Modifier.isPublic(method.getModifiers())) {
                checks.due("README.md: the example has " + method.getName(), true, () -> example
                        .stream().anyMatch(line -> line.startsWith("keeper." + method.getName() + "(")));
            }
        }
    }
}
