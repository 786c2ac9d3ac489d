import java.lang.reflect.Constructor;
import java.lang.reflect.Field;
import java.lang.reflect.Method;
import java.lang.reflect.Modifier;
import java.util.NoSuchElementException;
import java.util.Set;
import java.util.TreeSet;

/** The public face is the document's, and nothing else can be seen from outside (LANGUAGE.md, rules 1 and 5). */
public final class FaceTest {
    private static final Set<String> FACE = Set.of(
            "public int ReachKeeper.change(int,int,boolean) throws " + name(IllegalArgumentException.class) + ","
                    + name(IndexOutOfBoundsException.class),
            "public int ReachKeeper.forget()",
            "public int ReachKeeper.apply() throws " + name(IllegalStateException.class),
            "public boolean ReachKeeper.holds(int,int) throws " + name(IllegalArgumentException.class),
            "public int ReachKeeper.came(int) throws " + name(NoSuchElementException.class),
            "public int ReachKeeper.went(int) throws " + name(NoSuchElementException.class),
            "public int ReachKeeper.distance(int,int) throws " + name(IllegalArgumentException.class) + ","
                    + name(NoSuchElementException.class),
            "public int ReachKeeper.times(int,int) throws " + name(IllegalArgumentException.class),
            "public int ReachKeeper.count(int)");

    public static void main(String[] args) {
        Checks checks = new Checks();
        checks.equal("the class's modifiers", Modifier.PUBLIC | Modifier.FINAL, () -> ReachKeeper.class.getModifiers());
        checks.equal("methods", new TreeSet<>(FACE), () -> openMethods());
        for (Method method : ReachKeeper.class.getDeclaredMethods()) {
            boolean open = Modifier.isPublic(method.getModifiers());
            checks.equal(method + " is public, or its name isn't one of the face", true,
                    () -> open || !isNameOfTheFace(method.getName()));
        }
        Constructor<?>[] constructors = ReachKeeper.class.getDeclaredConstructors();
        checks.equal("how many constructors", 1, () -> constructors.length);
        checks.equal("the constructor", "public ReachKeeper()", () -> constructors[0].toString());
        for (Field field : ReachKeeper.class.getDeclaredFields()) {
            int modifiers = field.getModifiers();
            checks.equal(field + " is private", true, () -> Modifier.isPrivate(modifiers));
            checks.equal(field + " is no static state", true,
                    () -> !Modifier.isStatic(modifiers) || Modifier.isFinal(modifiers));
        }
        for (Class<?> inside : ReachKeeper.class.getDeclaredClasses()) {
            int modifiers = inside.getModifiers();
            checks.equal(inside + " is static and not public", true,
                    () -> Modifier.isStatic(modifiers) && !Modifier.isPublic(modifiers));
        }
        checks.end();
    }

    private static Set<String> openMethods() {
        Set<String> open = new TreeSet<>();
        for (Method method : ReachKeeper.class.getDeclaredMethods()) {
            if (!Modifier.isPrivate(method.getModifiers())) {
                open.add(method.toString());
            }
        }
        return open;
    }

    private static boolean isNameOfTheFace(String name) {
        for (String method : FACE) {
            if (method.contains("." + name + "(")) {
                return true;
            }
        }
        return false;
    }

    private static String name(Class<?> kind) {
        return kind.getName();
    }
}
