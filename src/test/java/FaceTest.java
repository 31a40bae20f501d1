import java.lang.reflect.Constructor;
import java.lang.reflect.Field;
import java.lang.reflect.Method;
import java.lang.reflect.Modifier;
import java.util.Set;
import java.util.TreeSet;

/** The public face, and nothing beside it. */
public final class FaceTest {
    private static final Set<String> FACE = Set.of(
            "public int feed(int,long) throws IllegalArgumentException",
            "public int wipe()",
            "public int read()",
            "public int fault()",
            "public int place()",
            "public boolean comes(int) throws IndexOutOfBoundsException",
            "public int known(int,int,boolean) throws IndexOutOfBoundsException",
            "public int number(int,int,boolean)"
                    + " throws IndexOutOfBoundsException,IllegalStateException",
            "public int told(int) throws IllegalArgumentException",
            "public int write()",
            "public long written(int)",
            "public int take()",
            "public int input(int)",
            "public int clear()",
            "public int run(int) throws IllegalArgumentException",
            "public int value(int) throws IndexOutOfBoundsException",
            "public int asked()",
            "public ConstantFlow()",
            "public static final int NONE",
            "public static final int ANY");

    public static void main(String[] args) {
        Checks checks = new Checks();
        Set<String> found = new TreeSet<>();
        for (Method method : ConstantFlow.class.getDeclaredMethods()) {
            add(found, method.getModifiers(), method.toGenericString());
        }
        for (Constructor<?> constructor : ConstantFlow.class.getDeclaredConstructors()) {
            add(found, constructor.getModifiers(), constructor.toGenericString());
        }
        for (Field field : ConstantFlow.class.getDeclaredFields()) {
            add(found, field.getModifiers(), field.toGenericString());
        }
        checks.due("the members that are not private", found.toString(),
                new TreeSet<>(FACE).toString());
        checks.due("the class is public and final",
                ConstantFlow.class.getModifiers(), Modifier.PUBLIC | Modifier.FINAL);
        checks.due("NONE", ConstantFlow.NONE, -1);
        checks.due("ANY", ConstantFlow.ANY, 2);
        checkNamesInside(checks);
        checks.finish();
    }

    private static void add(Set<String> found, int modifiers, String text) {
        if (!Modifier.isPrivate(modifiers)) {
            found.add(text.replace("java.lang.", "").replace("ConstantFlow.", ""));
        }
    }

    /** LANGUAGE.md, rule 1: no private method has a public one's name; classes are static. */
    private static void checkNamesInside(Checks checks) {
        Set<String> names = new TreeSet<>();
        for (Method method : ConstantFlow.class.getMethods()) {
            names.add(method.getName());
        }
        checkPrivateNames(checks, ConstantFlow.class, names);
        for (Class<?> inside : ConstantFlow.class.getDeclaredClasses()) {
            checks.due(inside.getName() + " is static",
                    Modifier.isStatic(inside.getModifiers()), true);
            checkPrivateNames(checks, inside, names);
        }
    }

    private static void checkPrivateNames(Checks checks, Class<?> owner, Set<String> names) {
        for (Method method : owner.getDeclaredMethods()) {
            if (Modifier.isPrivate(method.getModifiers())) {
                checks.due(method + " bears a public name",
                        names.contains(method.getName()), false);
            }
        }
    }
}
