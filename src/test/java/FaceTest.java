import java.lang.reflect.Constructor;
import java.lang.reflect.Field;
import java.lang.reflect.Method;
import java.lang.reflect.Modifier;
import java.util.Arrays;
import java.util.Set;
import java.util.TreeSet;

/** The public face is the document's, and nothing else is seen from outside. */
public final class FaceTest {
    private static final Set<String> FACE = new TreeSet<>(Arrays.asList(
            "int NONE = -1", "int TOP = 0", "int BOTTOM = 1", "int COAT = 2",
            "new WardrobeKeeper[]",
            "int add[int, int, int, int, int]",
            "int giveAway[int]",
            "boolean setClash[int, int, boolean]",
            "int things[]",
            "int left[int]",
            "boolean isPossible[int, int, int]",
            "boolean isTooSoon[int, int, int]",
            "int wear[int, int, int, int]",
            "int outfits[int]",
            "int adds[int, int]",
            "int missingTop[]",
            "int outfitFor[int, int]",
            "int load[int, boolean]",
            "int wash[int, boolean]",
            "int pass[int]",
            "boolean isEnough[int, int, int]",
            "int bag[int, int]"));

    public static void main(String[] args) throws IllegalAccessException {
        Checks checks = new Checks();
        Set<String> seen = seenFromOutside();
        checks.due("the face", FACE, () -> seen);
        checks.due("final", true, () -> Modifier.isFinal(WardrobeKeeper.class.getModifiers()));
        checks.due("private methods have names of their own", "[]", () -> sharedNames().toString());
        checks.end("FaceTest");
    }

    private static Set<String> seenFromOutside() throws IllegalAccessException {
        Set<String> seen = new TreeSet<>();
        for (Field field : WardrobeKeeper.class.getDeclaredFields()) {
            if (!Modifier.isPrivate(field.getModifiers())) {
                seen.add(field.getType() + " " + field.getName() + " = " + field.get(null));
            }
        }
        for (Constructor<?> made : WardrobeKeeper.class.getDeclaredConstructors()) {
            seen.add("new " + made.getName() + Arrays.toString(made.getParameterTypes()));
        }
        for (Method method : WardrobeKeeper.class.getDeclaredMethods()) {
            if (!Modifier.isPrivate(method.getModifiers())) {
                seen.add(method.getReturnType() + " " + method.getName()
                        + Arrays.toString(method.getParameterTypes()));
            }
        }
        return seen;
    }

    private static Set<String> sharedNames() {
        Set<String> publicNames = new TreeSet<>();
        Set<String> privateNames = new TreeSet<>();
        for (Method method : WardrobeKeeper.class.getDeclaredMethods()) {
            boolean isPrivate = Modifier.isPrivate(method.getModifiers());
            (isPrivate ? privateNames : publicNames).add(method.getName());
        }
        privateNames.retainAll(publicNames);
        return privateNames;
    }
}
