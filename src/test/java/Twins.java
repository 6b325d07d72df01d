/**
 * Two objects with the same past: one is asked something, the other is not, and then both must look alike in all
 * that calls can tell. A digest alone would not do: it holds neither the saved states nor the bytes of the text.
 */
final class Twins {
    interface Past {
        void leadTo(ShadedBooks books);
    }

    interface Call {
        long answerOf(ShadedBooks books);
    }

    private Twins() {
    }

    /** The call must throw just that exception by a throw of its own, and change nothing. */
    static void refuse(Class<? extends RuntimeException> due, Past past, Call call) {
        ShadedBooks asked = born(past);
        try {
            Check.fault("answered " + call.answerOf(asked) + ", due is " + due.getSimpleName() + Check.where());
        } catch (RuntimeException e) {
            if (e.getClass() != due) {
                Check.fault("threw " + e + ", due is " + due.getSimpleName() + Check.where());
            }
        }
        Check.are(portrait(born(past)), portrait(asked));
    }

    /** The call must answer that, and change nothing. */
    static void leave(long due, Past past, Call call) {
        ShadedBooks asked = born(past);
        Check.is(due, call.answerOf(asked));
        Check.are(portrait(born(past)), portrait(asked));
    }

    static ShadedBooks born(Past past) {
        ShadedBooks books = new ShadedBooks();
        past.leadTo(books);
        return books;
    }

    /** Everything that can be asked of an object, its saved states and its command text; the object is used up. */
    static String portrait(ShadedBooks books) {
        StringBuilder text = new StringBuilder();
        text.append(books.digest());
        for (int price = 1; price <= 120; price++) {
            text.append(' ').append(books.at(price, 0)).append('/').append(books.at(price, 1));
        }
        boolean more = true;
        while (more) {
            more = undone(books, text);
        }
        text.append(" run ").append(books.runCommands()).append(' ').append(books.digest());
        return text.append(" text ").append(books.clearCommands()).toString();
    }

    private static boolean undone(ShadedBooks books, StringBuilder text) {
        try {
            text.append(" undo ").append(books.undo()).append(' ').append(books.digest());
            return true;
        } catch (IllegalStateException e) {
            return false;
        }
    }
}
