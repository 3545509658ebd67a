import java.io.IOException;
import java.lang.reflect.Method;
import java.lang.reflect.Modifier;
import java.nio.file.Files;
import java.nio.file.Path;
import java.util.Set;
import java.util.TreeSet;
import java.util.regex.Matcher;
import java.util.regex.Pattern;

/** The example of README.md: each of its lines is called, and answers what stands behind it. */
public final class CodedLettersReadme extends Checks {
    private static final Pattern LETTERS =
        Pattern.compile("for \\(char c : \"([a-z]+)\"\\.toCharArray\\(\\)\\) x\\.(unit|plain)\\(c\\);");
    private static final Pattern SIGNS =
        Pattern.compile("for \\(int v : new int\\[\\] \\{([-0-9, ]+)\\}\\) x\\.(sign)\\(v\\);");
    private static final Pattern CALL =
        Pattern.compile("x\\.(\\w+)\\(([^)]*)\\);(?:\\s+// (-?\\d+|true|false)\\b.*)?");
    private static final Set<String> called = new TreeSet<>();

    public static void main(String[] args) throws IOException, ReflectiveOperationException {
        String text = Files.readString(Path.of("README.md"));
        String block = text.split("```java\n")[1].split("```")[0];
        CodedLetters x = new CodedLetters();
        for (String line : block.split("\n")) {
            boolean silent = line.isEmpty() || line.startsWith("//");
            if (!silent && !line.equals("CodedLetters x = new CodedLetters();")) {
                oneLine(x, line);
            }
        }
        Set<String> face = new TreeSet<>();
        for (Method method : CodedLetters.class.getDeclaredMethods()) {
            if (Modifier.isPublic(method.getModifiers())) {
                face.add(method.getName());
            }
        }
        due("the example shows the whole face", called.toString(), face.toString());
        end();
    }

    private static void oneLine(CodedLetters x, String line) throws ReflectiveOperationException {
        Matcher letters = LETTERS.matcher(line);
        Matcher signs = SIGNS.matcher(line);
        Matcher call = CALL.matcher(line);
        if (letters.matches()) {
            for (char c : letters.group(1).toCharArray()) {
                due(line, answer(x, letters.group(2), c), "true");
            }
        } else if (signs.matches()) {
            for (String sign : signs.group(1).split(", ")) {
                due(line, answer(x, signs.group(2), Integer.parseInt(sign)), "true");
            }
        } else if (call.matches()) {
            String want = call.group(3) == null ? "null" : call.group(3);
            due(line, answer(x, call.group(1), arguments(call.group(2))), want);
        } else {
            due("a line of a form that is not known", line, "");
        }
    }

    private static int[] arguments(String list) {
        String[] parts = list.isEmpty() ? new String[0] : list.split(", ");
        int[] values = new int[parts.length];
        for (int i = 0; i < parts.length; i++) {
            boolean quoted = parts[i].startsWith("'");
            values[i] = quoted ? parts[i].charAt(1) : Integer.parseInt(parts[i]);
        }
        return values;
    }

    /** The answer as a text; that of a call without an answer is null. */
    private static String answer(CodedLetters x, String name, int... arguments)
            throws ReflectiveOperationException {
        Class<?>[] types = new Class<?>[arguments.length];
        Object[] values = new Object[arguments.length];
        for (int i = 0; i < arguments.length; i++) {
            types[i] = int.class;
            values[i] = arguments[i];
        }
        called.add(name);
        return String.valueOf(CodedLetters.class.getMethod(name, types).invoke(x, values));
    }
}
