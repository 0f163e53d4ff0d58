import java.io.IOException;
import java.lang.reflect.Field;
import java.lang.reflect.Method;
import java.lang.reflect.Modifier;
import java.nio.file.Files;
import java.nio.file.Path;
import java.util.List;
import java.util.regex.Matcher;
import java.util.regex.Pattern;

/** What README.md shows of the class: its examples answer as it says, and it leaves out no call. */
public final class ReadmeTest {
    private static final Pattern CALL = Pattern.compile("x\\.(\\w+)\\(([^)]*)\\); +// ([^:]+): .*");

    private static final Due DUE = new Due("ReadmeTest");

    public static void main(String[] args) throws IOException, ReflectiveOperationException {
        Path file = Path.of(System.getProperty("readme", "README.md"));
        List<String> lines = Files.readAllLines(file);
        examples(lines);
        nothingLeftOut(String.join("\n", lines));
        DUE.end();
    }

    /** The examples are one run of calls, on one object. */
    private static void examples(List<String> lines) throws ReflectiveOperationException {
        EpochTree x = new EpochTree();
        int calls = 0;
        for (String line : lines) {
            if (!line.startsWith("x.")) {
                continue;
            }
            Matcher call = CALL.matcher(line);
            if (!call.matches()) {
                DUE.fail("no answer is told in " + line);
                continue;
            }
            calls++;
            String got = answer(x, call.group(1), call.group(2).split(", *"));
            DUE.yes(line + " (answered " + got + ")", got.equals(call.group(3)));
        }
        DUE.yes("there are examples", calls > 0);
    }

    private static String answer(EpochTree x, String name, String[] words) throws ReflectiveOperationException {
        Object[] values = new Object[words.length];
        Class<?>[] types = new Class<?>[words.length];
        for (int i = 0; i < words.length; i++) {
            boolean truth = words[i].equals("true") || words[i].equals("false");
            types[i] = truth ? boolean.class : int.class;
            values[i] = truth ? (Object) Boolean.valueOf(words[i]) : (Object) Integer.valueOf(words[i]);
        }
        return String.valueOf(EpochTree.class.getMethod(name, types).invoke(x, values));
    }

    private static void nothingLeftOut(String text) {
        for (Method method : EpochTree.class.getDeclaredMethods()) {
            if (Modifier.isPublic(method.getModifiers())) {
                DUE.yes("tells of " + method.getName(), text.contains("`" + method.getName() + "("));
            }
        }
        for (Field field : EpochTree.class.getDeclaredFields()) {
            if (Modifier.isPublic(field.getModifiers())) {
                DUE.yes("tells of " + field.getName(), text.contains("`" + field.getName() + "`"));
            }
        }
    }
}
