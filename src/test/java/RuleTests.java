import java.io.IOException;
import java.lang.reflect.Field;
import java.lang.reflect.Method;
import java.lang.reflect.Modifier;
import java.nio.charset.StandardCharsets;
import java.nio.file.Files;
import java.nio.file.Path;
import java.util.TreeSet;

/** The rules of LANGUAGE.md that can be seen in the text or in the class. */
final class RuleTests {
    private static final String[] FORBIDDEN = {
        "import ", "package ", "catch", "finally", "synchronized", "assert ", "->", "::", "Exact(", "System.out",
        "currentTimeMillis", "nanoTime", "Random", "record ", "hashCode", "toString", "while (true)", "for (;;)"
    };

    private RuleTests() {
    }

    static void run() {
        Check.test("rules: words that may not stand", () -> {
            String source = source();
            for (String word : FORBIDDEN) {
                Check.yes(!source.contains(word), "the source has \"" + word + "\"");
            }
        });
        Check.test("rules: signs 1 to 127", () -> {
            String source = source();
            for (int index = 0; index < source.length(); index++) {
                Check.yes(source.charAt(index) >= 1 && source.charAt(index) <= 127, "a sign beyond 127 at " + index);
            }
        });
        Check.test("rules: sizes of classes and methods", () -> {
            Check.yes(ShadedBooks.class.getDeclaredClasses().length < 12, "too many classes");
            look(ShadedBooks.class);
            for (Class<?> inside : ShadedBooks.class.getDeclaredClasses()) {
                Check.yes(Modifier.isStatic(inside.getModifiers()), inside + " is not static");
                look(inside);
            }
        });
        Check.test("rules: no hidden method bears the name of a public one", () -> {
            TreeSet<String> shown = new TreeSet<>();
            for (Method method : ShadedBooks.class.getMethods()) {
                shown.add(method.getName());
            }
            for (Method method : ShadedBooks.class.getDeclaredMethods()) {
                boolean hidden = Modifier.isPrivate(method.getModifiers());
                Check.yes(!hidden || !shown.contains(method.getName()), method + " bears a public name");
            }
        });
    }

    private static void look(Class<?> type) {
        int fields = 0;
        for (Field field : type.getDeclaredFields()) {
            boolean constant = Modifier.isStatic(field.getModifiers());
            Check.yes(!constant || Modifier.isFinal(field.getModifiers()), field + " is static and not final");
            fields += constant ? 0 : 1;
        }
        Check.yes(fields <= 20, type + " has too many fields");
        for (Method method : type.getDeclaredMethods()) {
            Check.yes(method.getParameterCount() <= 7, method + " takes too many parameters");
        }
    }

    private static String source() {
        try {
            return Files.readString(Path.of("src/main/java/ShadedBooks.java"), StandardCharsets.ISO_8859_1);
        } catch (IOException e) {
            Check.fault("the source cannot be read: " + e);
            return "";
        }
    }
}
