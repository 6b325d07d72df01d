import java.io.IOException;
import java.lang.reflect.InvocationTargetException;
import java.lang.reflect.Method;
import java.lang.reflect.Modifier;
import java.nio.charset.StandardCharsets;
import java.nio.file.Files;
import java.nio.file.Path;
import java.util.ArrayList;
import java.util.HashMap;
import java.util.List;
import java.util.Map;
import java.util.regex.Matcher;
import java.util.regex.Pattern;

/** The example of README.md is carried out line by line: what it says that a call answers is what the program answers. */
final class ReadmeTests {
    private static final String FIRST = "ShadedBooks books = new ShadedBooks();";
    private static final Pattern CALL =
            Pattern.compile("(?:int (\\w+) = )?books\\.(\\w+)\\(([^)]*)\\);\\s*// (throws \\w+|-?\\d+): .*");
    private static final Pattern TYPE =
            Pattern.compile("for \\(char sign : \"([^\"]*)\"\\.toCharArray\\(\\)\\) books\\.type\\(sign\\);");

    private final ShadedBooks books = new ShadedBooks();
    private final Map<String, Integer> named = new HashMap<>();
    private final Map<String, Method> face = methods();

    private ReadmeTests() {
    }

    static void run() {
        Check.test("README: the example answers as the program does", ReadmeTests::example);
        Check.test("README: each call is named", ReadmeTests::eachCall);
    }

    private static void example() {
        List<String> lines = exampleLines();
        Check.yes(lines.size() > 20, "the example is not there");
        Check.yes(!lines.isEmpty() && lines.get(0).equals(FIRST), "the example does not begin with " + FIRST);
        ReadmeTests reader = new ReadmeTests();
        for (int index = 1; index < lines.size(); index++) {
            if (!lines.get(index).isBlank()) {
                reader.carryOut(lines.get(index));
            }
        }
    }

    private static void eachCall() {
        String text = readme();
        for (String name : methods().keySet()) {
            Check.yes(text.contains("`" + name + "`"), name + " is not named");
        }
    }

    private void carryOut(String line) {
        Matcher call = CALL.matcher(line);
        Matcher typing = TYPE.matcher(line);
        if (call.matches()) {
            String got = answer(call.group(2), call.group(3));
            Check.are(call.group(4) + " of " + line, got + " of " + line);
            if (call.group(1) != null) {
                named.put(call.group(1), Integer.parseInt(got));
            }
        } else if (typing.matches()) {
            CommandTests.type(books, typing.group(1));
        } else {
            Check.fault("a line that the test cannot read: " + line);
        }
    }

    private String answer(String name, String numbers) {
        String[] parts = numbers.isEmpty() ? new String[0] : numbers.split(", ");
        Object[] given = new Object[parts.length];
        for (int index = 0; index < parts.length; index++) {
            Integer known = named.get(parts[index]);
            given[index] = known != null ? known : Integer.valueOf(parts[index]);
        }
        try {
            return String.valueOf(face.get(name).invoke(books, given));
        } catch (InvocationTargetException e) {
            return "throws " + e.getCause().getClass().getSimpleName();
        } catch (ReflectiveOperationException e) {
            return e.toString();
        }
    }

    private static Map<String, Method> methods() {
        Map<String, Method> shown = new HashMap<>();
        for (Method method : ShadedBooks.class.getDeclaredMethods()) {
            if (Modifier.isPublic(method.getModifiers())) {
                shown.put(method.getName(), method);
            }
        }
        return shown;
    }

    private static List<String> exampleLines() {
        List<String> lines = new ArrayList<>();
        boolean inside = false;
        for (String line : readme().split("\n")) {
            if (line.startsWith("```")) {
                inside = line.equals("```java");
            } else if (inside) {
                lines.add(line);
            }
        }
        return lines;
    }

    private static String readme() {
        try {
            return Files.readString(Path.of("README.md"), StandardCharsets.ISO_8859_1);
        } catch (IOException e) {
            Check.fault("README.md cannot be read: " + e);
            return "";
        }
    }
}
