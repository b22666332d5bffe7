import java.io.File;
import java.io.IOException;
import java.lang.reflect.Field;
import java.lang.reflect.Method;
import java.lang.reflect.Modifier;
import java.nio.file.Files;
import java.nio.file.Path;
import java.util.regex.Matcher;
import java.util.regex.Pattern;

/** README.md: each call of its example answers what stands behind it, and it names all there is to use. */
public final class ReadmeTest {
    private static final Checks CHECKS = new Checks();
    private static final Pattern MADE = Pattern.compile("PacketSpreader x = new PacketSpreader\\((.*)\\);");
    private static final Pattern CALL = Pattern.compile("x\\.(\\w+)\\((.*)\\);\\s+// (\\S+)");

    public static void main(String[] args) throws IOException, ReflectiveOperationException {
        String text = Files.readString(Path.of("README.md"));
        theExample(text.substring(text.indexOf("```java\n") + 8, text.lastIndexOf("\n```")));
        theFace(text);
        theTests(text);
        CHECKS.end();
    }

    private static void theExample(String example) throws ReflectiveOperationException {
        String[] lines = example.split("\n");
        Matcher made = MADE.matcher(lines[0]);
        CHECKS.due("the first line makes an object", made.matches(), true);
        Object[] of = values(made.group(1));
        PacketSpreader x = new PacketSpreader((int) of[0], (int) of[1], (int) of[2], (int) of[3]);
        CHECKS.due("the example calls something", lines.length > 1, true);
        for (int i = 1; i < lines.length; i++) {
            Matcher call = CALL.matcher(lines[i]);
            boolean read = call.matches();
            CHECKS.due(lines[i] + " is a call with its answer", read, true);
            if (read) {
                Object answer = method(call.group(1)).invoke(x, values(call.group(2)));
                CHECKS.due(lines[i] + " answers " + answer, answer.equals(value(call.group(3))), true);
            }
        }
    }

    private static void theFace(String text) {
        for (Method method : PacketSpreader.class.getDeclaredMethods()) {
            if (Modifier.isPublic(method.getModifiers())) {
                String call = "`" + method.getName() + "(";
                CHECKS.due("README.md tells of " + call, text.contains(call), true);
            }
        }
        for (Field field : PacketSpreader.class.getFields()) {
            String name = "`" + field.getName() + "`";
            CHECKS.due("README.md tells of " + name, text.contains(name), true);
        }
    }

    private static void theTests(String text) {
        int there = 0;
        for (String file : new File("src/test/java").list()) {
            if (file.endsWith("Test.java")) {
                there++;
                String row = "\n| `" + file.replace(".java", "") + "` |";
                CHECKS.due("README.md has a row for " + file, text.contains(row), true);
            }
        }
        CHECKS.due("rows of tests that are not there", text.split("\n\\| `\\w+Test` \\|").length - 1 - there, 0);
    }

    private static Method method(String name) {
        for (Method method : PacketSpreader.class.getDeclaredMethods()) {
            if (method.getName().equals(name)) {
                return method;
            }
        }
        throw new IllegalStateException("README.md calls " + name + ", which is not there");
    }

    private static Object[] values(String list) throws ReflectiveOperationException {
        if (list.isEmpty()) {
            return new Object[0];
        }
        String[] words = list.split(", ");
        Object[] values = new Object[words.length];
        for (int i = 0; i < words.length; i++) {
            values[i] = value(words[i]);
        }
        return values;
    }

    private static Object value(String word) throws ReflectiveOperationException {
        if (word.equals("true") || word.equals("false")) {
            return word.equals("true");
        }
        if (Character.isLetter(word.charAt(0))) {
            return PacketSpreader.class.getField(word).get(null);
        }
        // An int may be written as 32 bits, so that it can be above the greatest int.
        return Long.decode(word).intValue();
    }
}
