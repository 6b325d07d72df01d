/** Promises 22 to 26: the command text, undo and the digest. */
final class CommandTests {
    private static final Class<IllegalArgumentException> OUT_OF_RANGE = IllegalArgumentException.class;
    private static final Class<IllegalStateException> NOT_NOW = IllegalStateException.class;
    private static final int NONE = ShadedBooks.NONE;

    private CommandTests() {
    }

    static void run() {
        Check.test("promise 22: type", CommandTests::typing);
        Check.test("promise 23: clearCommands", CommandTests::emptying);
        Check.test("promise 24: all words", CommandTests::allWords);
        Check.test("promise 24: texts without a fault", CommandTests::sound);
        Check.test("promise 24: faults", CommandTests::faults);
        Check.test("promise 24: a command that would throw ends the run", CommandTests::stopped);
        Check.test("promise 24: one state is saved", CommandTests::oneState);
        Check.test("promise 25: undo", CommandTests::undo);
        Check.test("promise 25: undo leaves the command text", CommandTests::undoLeavesText);
        Check.test("promise 25: every undoable call saves, no other", CommandTests::whatSaves);
        Check.test("promise 26: digest", CommandTests::digest);
    }

    static void type(ShadedBooks books, String text) {
        for (int index = 0; index < text.length(); index++) {
            books.type(text.charAt(index));
        }
    }

    private static void runs(int want, String text) {
        ShadedBooks books = new ShadedBooks();
        type(books, text);
        long before = books.digest();
        int got = books.runCommands();
        if (got != want) {
            Check.fault("\"" + text + "\" answered " + got + ", due is " + want);
        }
        if (want < 0) {
            Check.is(before, books.digest());
            Check.refuses(NOT_NOW, books, books::undo);
        } else {
            Check.is(0, books.undo());
        }
        Check.is(text.length(), books.whole(11));
    }

    private static void typing() {
        ShadedBooks books = new ShadedBooks();
        Check.is(1, books.type(0));
        Check.is(2, books.type(127));
        Check.refuses(OUT_OF_RANGE, books, () -> books.type(-1));
        Check.refuses(OUT_OF_RANGE, books, () -> books.type(128));
        for (int length = 3; length <= 150; length++) {
            Check.is(length, books.type(' '));
        }
        Check.refuses(NOT_NOW, books, () -> books.type(' '));
        Check.refuses(OUT_OF_RANGE, books, () -> books.type(128));
        Check.refuses(OUT_OF_RANGE, books, () -> books.type(Integer.MIN_VALUE));
        Check.is(150, books.whole(11));
        Check.refuses(NOT_NOW, books, books::undo);
    }

    private static void emptying() {
        ShadedBooks books = new ShadedBooks();
        type(books, "clear;!");
        Check.is(-16, books.runCommands());
        Check.is(7, books.clearCommands());
        Check.is(0, books.clearCommands());
        Check.is(0, books.whole(11));
        type(books, "cle");
        Check.is(-10, books.runCommands());
        books.clearCommands();
        type(books, "clear");
        Check.is(-15, books.runCommands());
        Check.refuses(NOT_NOW, books, books::undo);
    }

    private static void allWords() {
        ShadedBooks books = new ShadedBooks();
        type(books, "buyer 60;seller 30; shade 0 1 5;bid 0 2;order 1 45 003 ;set 0 10;set  1   009; order 0 1 1;cancel 2 ;clear;  ");
        Check.is(10, books.runCommands());
        TraderAndOrderTests.wholeIs(books, 2, 1, 1, 10, 9, 3, 2, 60, 55, 1, 0, 109);
        TraderAndOrderTests.traderIs(books, 0, 0, 60, 1, 5, 55, 0, 0, 2, 10, -110);
        Check.is(1, books.orderOf(1, 2));
        Check.is(8, books.runCommands());
        TraderAndOrderTests.wholeIs(books, 4, 4, 1, 10, 9, 6);
    }

    private static void sound() {
        runs(0, "");
        runs(0, "   ");
        runs(1, "clear;");
        runs(2, " clear ;clear; ");
        runs(25, "clear;".repeat(25));
        runs(1, "buyer 099;");
        runs(1, "buyer    9   ;   ");
        runs(0, "buyer 000;");
        runs(0, "buyer 999;clear;");
    }

    private static void faults() {
        runs(-10, "x");
        runs(-10, ";");
        runs(-11, " ;");
        runs(-10, "5");
        runs(-10, "buye");
        runs(-10, "buyers 5;");
        runs(-10, "buyerseller 5;");
        runs(-10, "Buyer 5;");
        runs(-10, "buYer 5;");
        runs(-15, "buyer");
        runs(-15, "buyer;");
        runs(-15, "buyer5;");
        runs(-15, "buyerS 5;");
        runs(-16, "buyer ");
        runs(-16, "buyer ;");
        runs(-16, "buyer ;clear 1;");
        runs(-16, "buyer x;");
        runs(-16, "buyer -5;");
        runs(-17, "buyer 5");
        runs(-18, "buyer 5 ");
        runs(-17, "buyer 5x;");
        runs(-18, "buyer 5 6;");
        runs(-19, "buyer 1234;");
        runs(-19, "buyer 0001;");
        runs(-15, "bid 1;");
        runs(-18, "bid 111 ;");
        runs(-17, "bid 1111 1;");
        runs(-15, "clear");
        runs(-16, "clear 1;");
        runs(-16, "clear;;");
        runs(-16, "clear;clea");
        runs(-21, "clear;clear");
        runs(-18, "clear;  \t");
        runs(-16, "clear;trader 1;");
        runs(-15, "clear\t;");
        runs(-17, "order 1,2 3;");
        runs(-21, "shade 1 2 3\177");
        runs(-160, "set 1 1;" + " ".repeat(137) + "clear");
    }

    private static void stopped() {
        ShadedBooks books = new ShadedBooks();
        type(books, "buyer 9;bid 0 1;bid 0 0;bid 0 2;");
        Check.is(2, books.runCommands());
        Check.is(1, books.whole(1));
        Check.is(0, books.undo());
        Check.is(0, books.whole(0));
        books.clearCommands();
        type(books, "cancel 0;clear;");
        Check.is(0, books.runCommands());
        Check.is(0, books.whole(2));
        Check.is(0, books.undo());
        books.clearCommands();
        type(books, "buyer 9;".repeat(9));
        Check.is(8, books.runCommands());
        books.clearCommands();
        type(books, "bid 0 1;".repeat(18));
        Check.is(18, books.runCommands());
        Check.is(2, books.runCommands());
        Check.is(20, books.whole(1));
        String[] wrong = {"shade 8 0 0;", "shade 0 4 0;", "shade 0 0 51;", "order 0 121 1;", "order 0 1 1;", "set 2 1;", "set 0 11;",
            "cancel 20;", "seller 1;", "buyer 0;", "bid 8 1;"};
        for (String text : wrong) {
            books.clearCommands();
            type(books, text + "clear;");
            Check.is(0, books.runCommands());
        }
        Check.is(0, books.whole(2));
    }

    private static void oneState() {
        ShadedBooks books = new ShadedBooks();
        books.addTrader(0, 50);
        type(books, "set 0 1;set 0 2;set 0 3;set 0 4;set 0 5;set 0 6;");
        Check.is(6, books.runCommands());
        Check.is(1, books.undo());
        Check.is(5, books.whole(3));
        Check.is(0, books.undo());
        Check.is(0, books.whole(0));
    }

    private static void undo() {
        ShadedBooks books = new ShadedBooks();
        for (int split = 0; split <= 6; split++) {
            books.set(0, split);
        }
        for (int left = 3; left >= 0; left--) {
            Check.is(left, books.undo());
            Check.is(left + 2, books.whole(3));
        }
        Check.refuses(NOT_NOW, books, books::undo);
        Check.is(2, books.whole(3));
        books.set(0, 9);
        books.set(0, 9);
        Check.is(1, books.undo());
        Check.is(9, books.whole(3));
        books.set(0, 8);
        Check.is(1, books.undo());
        Check.is(9, books.whole(3));
        Check.is(0, books.undo());
        Check.is(2, books.whole(3));
    }

    private static void undoLeavesText() {
        ShadedBooks books = new ShadedBooks();
        books.addTrader(0, 50);
        type(books, "clear;");
        Check.is(0, books.undo());
        Check.is(6, books.whole(11));
        Check.is(1, books.runCommands());
        books.clearCommands();
        Check.is(0, books.undo());
        Check.is(0, books.whole(11));
        Check.is(0, books.whole(2));
    }

    private static void whatSaves() {
        ShadedBooks books = new ShadedBooks();
        long[] digests = new long[10];
        Runnable[] calls = {() -> books.addTrader(0, 50), () -> books.setValue(0, 50), () -> books.setShade(0, 0, 0),
            () -> books.set(0, 5), () -> books.bid(0, 1), () -> books.order(0, 1, 1), () -> books.cancel(0), books::clear,
            books::runCommands};
        for (int call = 0; call < calls.length; call++) {
            calls[call].run();
            digests[call] = books.digest();
            Check.is(Math.min(call, 3), books.undo());
            calls[call].run();
            Check.is(digests[call], books.digest());
        }
        for (int left = 3; left >= 0; left--) {
            Check.is(left, books.undo());
        }
        books.clearCommands();
        books.gainWith(0, 1);
        books.type('!');
        books.runCommands();
        Check.refuses(NOT_NOW, books, books::undo);
    }

    private static void digest() {
        ShadedBooks books = new ShadedBooks();
        Check.is(digestOf(books, 0, 0), books.digest());
        ShadedBooks more = TraderAndOrderTests.fourTraders();
        Check.is(digestOf(more, 4, 4), more.digest());
        more.clear();
        more.bid(0, 1);
        type(more, "!");
        Check.is(digestOf(more, 4, 5), more.digest());
        more.undo();
        Check.is(digestOf(more, 3, 5), more.digest());
    }

    /** By the words of the document, from the other calls alone. */
    private static long digestOf(ShadedBooks books, int saved, int orders) {
        long h = 31 * 43616L + saved;
        for (int what = 0; what <= 11; what++) {
            h = 31 * h + books.whole(what);
        }
        for (int what = 0; what <= 6; what++) {
            h = 31 * h + books.now(what);
        }
        for (int trader = 0; trader < books.whole(0); trader++) {
            for (int what = 0; what <= 9; what++) {
                h = 31 * h + books.trader(trader, what);
            }
        }
        for (int order = 0; order < orders; order++) {
            h = mixOrder(books, order, h);
        }
        for (int index = 0; books.trade(index, 0) != NONE; index++) {
            for (int what = 0; what <= 4; what++) {
                h = 31 * h + books.trade(index, what);
            }
        }
        return h;
    }

    private static long mixOrder(ShadedBooks books, int order, long before) {
        try {
            books.filled(order);
        } catch (IndexOutOfBoundsException e) {
            return before;
        }
        long h = 31 * before + order;
        for (int what = 0; what <= 4; what++) {
            h = 31 * h + books.orderOf(order, what);
        }
        return 31 * h + books.filled(order);
    }
}
