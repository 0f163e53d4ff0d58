import java.lang.reflect.Constructor;
import java.lang.reflect.Field;
import java.lang.reflect.Method;
import java.lang.reflect.Modifier;
import java.util.Arrays;
import java.util.Set;
import java.util.TreeSet;

/** The public face: the members of the document and no other one that can be seen from outside. */
public final class FaceTest {
    private static final String[] METHODS = {
        "boolean lead(int)", "boolean follow(int, int)", "boolean quit(int)", "boolean crash(int)",
        "boolean restart(int)", "int up(int)", "int down(int)", "int submit(int, int, int, int, int)",
        "int tick()", "boolean touch(int, int)", "int role(int)", "int promise(int)", "int epoch(int)",
        "int length(int)", "int mark(int, int)", "int applied(int)", "int result(int, int)",
        "int node(int, int, int)", "int tree(int)", "int waiting(int, boolean)",
    };

    private static final Due DUE = new Due("FaceTest");

    public static void main(String[] args) {
        DUE.is("BAD", EpochTree.BAD, -1);
        DUE.is("IDLE", EpochTree.IDLE, -2);
        DUE.is("FULL", EpochTree.FULL, -3);
        int modifiers = EpochTree.class.getModifiers();
        DUE.yes("public and final", Modifier.isPublic(modifiers) && Modifier.isFinal(modifiers));
        methods();
        fields();
        constructors();
        classesInside();
        DUE.end();
    }

    private static void methods() {
        Set<String> seen = new TreeSet<>();
        Set<String> hidden = new TreeSet<>();
        Set<String> names = new TreeSet<>();
        for (Method method : EpochTree.class.getDeclaredMethods()) {
            if (Modifier.isPrivate(method.getModifiers()) || method.isSynthetic()) {
                hidden.add(method.getName());
                continue;
            }
            DUE.yes(method.getName() + " is public", Modifier.isPublic(method.getModifiers()));
            String takes = Arrays.toString(method.getParameterTypes());
            seen.add(method.getReturnType() + " " + method.getName() + "(" + takes.substring(1, takes.length() - 1) + ")");
            names.add(method.getName());
        }
        DUE.yes("the methods " + seen, seen.equals(new TreeSet<>(Arrays.asList(METHODS))));
        hidden.retainAll(names);
        DUE.yes("no private method has a public one's name: " + hidden, hidden.isEmpty());
    }

    private static void fields() {
        Set<String> seen = new TreeSet<>();
        for (Field field : EpochTree.class.getDeclaredFields()) {
            if (!Modifier.isPrivate(field.getModifiers())) {
                seen.add(Modifier.toString(field.getModifiers()) + " " + field.getType() + " " + field.getName());
            }
            if (Modifier.isStatic(field.getModifiers())) {
                DUE.yes(field.getName() + " is final", Modifier.isFinal(field.getModifiers()));
            }
        }
        DUE.yes("the constants " + seen, seen.equals(Set.of(
                "public static final int BAD", "public static final int IDLE", "public static final int FULL")));
    }

    private static void constructors() {
        Constructor<?>[] all = EpochTree.class.getDeclaredConstructors();
        DUE.is("constructors", all.length, 1);
        DUE.yes("public", Modifier.isPublic(all[0].getModifiers()));
        DUE.is("its parameters", all[0].getParameterCount(), 0);
    }

    private static void classesInside() {
        for (Class<?> inside : EpochTree.class.getDeclaredClasses()) {
            int modifiers = inside.getModifiers();
            DUE.yes(inside.getName() + " is static", Modifier.isStatic(modifiers));
            DUE.no(inside.getName() + " can be seen", Modifier.isPublic(modifiers) || Modifier.isProtected(modifiers));
        }
    }
}
