import java.io.IOException;
import java.lang.reflect.Executable;
import java.lang.reflect.Field;
import java.lang.reflect.Method;
import java.lang.reflect.Modifier;
import java.nio.file.Files;
import java.nio.file.Path;
import java.util.ArrayList;
import java.util.List;
import java.util.Set;
import java.util.TreeSet;
import java.util.regex.Matcher;
import java.util.regex.Pattern;

/**
 * The rules of LANGUAGE.md that can be seen from the source, or from the class by reflection. Where the rules
 * allow more of the library than the class needs, this allows only numbers and arrays of them.
 */
public final class LanguageTest {
    private static final Set<String> FORBIDDEN = Set.of("throw", "throws", "try", "catch", "finally", "synchronized",
            "assert", "package", "Thread", "Object", "equals", "hashCode", "toString", "Random", "native", "volatile");
    private static final Set<String> LIBRARY = Set.of("Arrays.fill", "Arrays.copyOf", "Arrays.copyOfRange",
            "System.arraycopy", "Math.max", "Math.min", "Math.abs");
    private static final int MOST_PARAMETERS = 7;
    private static final int MOST_CLASSES = 12;
    private static final int MOST_FIELDS = 20;
    private static final int MOST_LINES = 60;

    private static final Due DUE = new Due("LanguageTest");

    public static void main(String[] args) throws IOException {
        String source = Files.readString(Path.of(System.getProperty("source", "src/main/java/EpochTree.java")));
        String code = withoutComments(source);
        words(code);
        library(code);
        methodLengths(code);
        List<Class<?>> classes = new ArrayList<>();
        addWithInside(classes, EpochTree.class);
        DUE.yes("rule 11: " + classes.size() + " classes", classes.size() <= MOST_CLASSES);
        for (Class<?> each : classes) {
            shape(each);
        }
        DUE.end();
    }

    private static String withoutComments(String source) {
        return source.replaceAll("(?s)/\\*.*?\\*/", "").replaceAll("//[^\n]*", "");
    }

    private static void words(String code) {
        for (String word : code.split("\\W+")) {
            DUE.no("rules 4, 6, 13: the word " + word, FORBIDDEN.contains(word));
        }
        DUE.no("rule 2: a lambda or a method reference", code.contains("->") || code.contains("::"));
    }

    /** Every name with a capital before a point, but for the constants of the class itself. */
    private static void library(String code) {
        Matcher imported = Pattern.compile("import ([^;]+);").matcher(code);
        while (imported.find()) {
            DUE.yes("rule 4: import " + imported.group(1), imported.group(1).equals("java.util.Arrays"));
        }
        Matcher call = Pattern.compile("\\b([A-Z]\\w*\\.[a-z]\\w*)").matcher(code);
        while (call.find()) {
            DUE.yes("rule 4: " + call.group(1), LIBRARY.contains(call.group(1)));
        }
    }

    /** A method ends with the first line that closes at the depth of its own first line. */
    private static void methodLengths(String code) {
        String[] lines = code.split("\n");
        for (int i = 0; i < lines.length; i++) {
            if (!lines[i].matches(" +(public|private)\\b.*\\) \\{")) {
                continue;
            }
            String end = lines[i].replaceFirst("\\S.*", "") + "}";
            int last = i;
            while (last < lines.length - 1 && !lines[last].equals(end)) {
                last++;
            }
            DUE.yes("rule 11: the length of " + lines[i].trim(), last - i + 1 <= MOST_LINES);
        }
    }

    private static void addWithInside(List<Class<?>> classes, Class<?> outer) {
        classes.add(outer);
        for (Class<?> inside : outer.getDeclaredClasses()) {
            addWithInside(classes, inside);
        }
    }

    private static void shape(Class<?> each) {
        String name = each.getSimpleName();
        DUE.yes("rule 2: " + name + " is static", each == EpochTree.class || Modifier.isStatic(each.getModifiers()));
        fields(each, name);
        Set<String> publicNames = new TreeSet<>();
        for (Method method : EpochTree.class.getDeclaredMethods()) {
            if (Modifier.isPublic(method.getModifiers())) {
                publicNames.add(method.getName());
            }
        }
        for (Method method : each.getDeclaredMethods()) {
            parameters(method);
            if (Modifier.isPrivate(method.getModifiers())) {
                DUE.no("rule 1: " + name + "." + method.getName(), publicNames.contains(method.getName()));
            }
        }
        for (Executable constructor : each.getDeclaredConstructors()) {
            parameters(constructor);
        }
    }

    private static void parameters(Executable method) {
        DUE.yes("rule 11: the parameters of " + method.getName(), method.getParameterCount() <= MOST_PARAMETERS);
    }

    private static void fields(Class<?> each, String name) {
        int own = 0;
        for (Field field : each.getDeclaredFields()) {
            if (!Modifier.isStatic(field.getModifiers())) {
                own++;
                continue;
            }
            boolean constant = Modifier.isFinal(field.getModifiers()) && field.getType().isPrimitive();
            DUE.yes("rule 5: " + name + "." + field.getName(), constant);
        }
        DUE.yes("rule 11: " + name + " has " + own + " fields", own <= MOST_FIELDS);
    }
}
