import java.lang.reflect.Constructor;
import java.lang.reflect.Field;
import java.lang.reflect.Method;
import java.lang.reflect.Modifier;
import java.util.Arrays;
import java.util.TreeSet;

/** The class shows the document's face, and nothing else. */
final class FaceTests {
    private static final String[] METHODS = {
        "int addTrader(int,int)", "int setValue(int,int)", "int setShade(int,int,int)", "int set(int,int)",
        "int bid(int,int)", "int order(int,int,int)", "int cancel(int)", "int clear()",
        "int trader(int,int)", "int orderOf(int,int)", "int trade(int,int)", "int at(int,int)", "int now(int)",
        "int whole(int)", "int filled(int)", "int reason(int)", "int gainWith(int,int)", "int bestShade(int)",
        "int bestSplit(int)", "int goneIn(int)", "int type(int)", "int clearCommands()", "int runCommands()",
        "int undo()", "long digest()"
    };

    private FaceTests() {
    }

    static void run() {
        Check.test("face: the methods", () -> {
            TreeSet<String> shown = new TreeSet<>();
            for (Method method : ShadedBooks.class.getDeclaredMethods()) {
                if (!Modifier.isPrivate(method.getModifiers())) {
                    shown.add(write(method));
                }
            }
            Check.are(new TreeSet<>(Arrays.asList(METHODS)).toString(), shown.toString());
        });
        Check.test("face: one public constructor without numbers", () -> {
            Constructor<?>[] all = ShadedBooks.class.getDeclaredConstructors();
            Check.is(1, all.length);
            Check.is(0, all[0].getParameterCount());
            Check.yes(Modifier.isPublic(all[0].getModifiers()), "the constructor is not public");
            Check.yes(Modifier.isFinal(ShadedBooks.class.getModifiers()), "the class is not final");
        });
        Check.test("face: one constant", () -> {
            for (Field field : ShadedBooks.class.getDeclaredFields()) {
                boolean due = field.getName().equals("NONE") != Modifier.isPrivate(field.getModifiers());
                Check.yes(due, "the field " + field.getName() + " is shown or hidden wrongly");
            }
            Check.is(-10000, ShadedBooks.NONE);
        });
    }

    private static String write(Method method) {
        StringBuilder text = new StringBuilder();
        text.append(method.getReturnType()).append(' ').append(method.getName()).append('(');
        for (Class<?> type : method.getParameterTypes()) {
            text.append(text.charAt(text.length() - 1) == '(' ? "" : ",").append(type);
        }
        return text.append(')').toString();
    }
}
