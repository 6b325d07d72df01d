import java.util.ArrayList;
import java.util.List;

/** Counts the tests and says which of them failed. */
final class Check {
    interface Call {
        long answer();
    }

    private static int passed = 0;
    private static int failed = 0;
    private static String test = "";
    private static boolean sound = true;
    private static final List<String> FAULTS = new ArrayList<>();

    private Check() {
    }

    static void test(String name, Runnable body) {
        test = name;
        sound = true;
        try {
            body.run();
        } catch (RuntimeException e) {
            fault("threw " + e);
        }
        if (sound) {
            passed++;
        } else {
            failed++;
        }
    }

    static void is(long want, long got) {
        if (want != got) {
            fault("answered " + got + ", due is " + want + where());
        }
    }

    static void are(String want, String got) {
        if (!want.equals(got)) {
            fault("answered " + got + ", due is " + want + where());
        }
    }

    static void yes(boolean holds, String what) {
        if (!holds) {
            fault(what);
        }
    }

    /** The call must throw just that exception by a throw of its own, and leave the digest as it is. */
    static void refuses(Class<? extends RuntimeException> due, ShadedBooks books, Call call) {
        long before = books.digest();
        try {
            fault("answered " + call.answer() + ", due is " + due.getSimpleName() + where());
        } catch (RuntimeException e) {
            if (e.getClass() != due) {
                fault("threw " + e + ", due is " + due.getSimpleName() + where());
            }
        }
        is(before, books.digest());
    }

    static void fault(String text) {
        sound = false;
        if (FAULTS.size() < 40) {
            FAULTS.add(test + ": " + text);
        }
    }

    /** Prints what there is to say; tells whether all is well. */
    static boolean close() {
        for (String text : FAULTS) {
            System.out.println(text);
        }
        System.out.println("own: " + passed + " passed, " + failed + " failed");
        return failed == 0 && passed > 0;
    }

    static String where() {
        for (StackTraceElement step : new Throwable().getStackTrace()) {
            if (!step.getClassName().startsWith("Check") && !step.getClassName().startsWith("Twins")) {
                return " (" + step.getFileName() + ":" + step.getLineNumber() + ")";
            }
        }
        return "";
    }
}
