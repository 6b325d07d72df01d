/** Promises 16 to 21: what-if questions, none of which changes anything. */
final class WhatIfTests {
    private static final Class<IndexOutOfBoundsException> NOT_THERE = IndexOutOfBoundsException.class;
    private static final Class<IllegalArgumentException> OUT_OF_RANGE = IllegalArgumentException.class;
    private static final int NONE = ShadedBooks.NONE;
    private static final int[] WRONG = {Integer.MIN_VALUE, -10000, -1, 12, 10000, Integer.MAX_VALUE};

    private WhatIfTests() {
    }

    static void run() {
        Check.test("promise 16: filled", WhatIfTests::filled);
        Check.test("promise 17: reason", WhatIfTests::reason);
        Check.test("promise 18: gainWith", WhatIfTests::gainWith);
        Check.test("promise 18: gainWith is a further order behind equals", WhatIfTests::gainBehindEquals);
        Check.test("promise 19: bestShade", WhatIfTests::bestShade);
        Check.test("promise 20: bestSplit", WhatIfTests::bestSplit);
        Check.test("promise 21: goneIn", WhatIfTests::goneIn);
        Check.test("promises 16 to 21: nothing changes", WhatIfTests::nothingChanges);
        Check.test("promises 18 to 20: a full book", WhatIfTests::fullBook);
    }

    private static void refusesOrder(ShadedBooks books, int order) {
        Check.refuses(NOT_THERE, books, () -> books.filled(order));
        Check.refuses(NOT_THERE, books, () -> books.reason(order));
        Check.refuses(NOT_THERE, books, () -> books.goneIn(order));
    }

    private static void filled() {
        ShadedBooks books = TraderAndOrderTests.fourTraders();
        int[] due = {2, 3, 2, 3};
        for (int order = 0; order < 4; order++) {
            Check.is(due[order], books.filled(order));
        }
        books.cancel(0);
        Check.is(3, books.filled(1));
        Check.is(2, books.filled(2));
        Check.is(1, books.filled(3));
        refusesOrder(books, 0);
        refusesOrder(books, 4);
        for (int wrong : WRONG) {
            refusesOrder(books, wrong);
        }
    }

    private static void reason() {
        ShadedBooks books = new ShadedBooks();
        books.addTrader(0, 60);
        books.addTrader(1, 30);
        books.order(0, 50, 2);
        Check.is(1, books.reason(0));
        books.order(1, 40, 5);
        books.order(1, 40, 1);
        books.order(1, 90, 1);
        books.order(0, 39, 1);
        Check.is(0, books.reason(0));
        Check.is(3, books.reason(1));
        Check.is(3, books.reason(2));
        Check.is(2, books.reason(3));
        Check.is(2, books.filled(1));
        Check.is(0, books.filled(4));
        Check.is(2, books.reason(4));
        books.set(0, 10);
        Check.is(2, books.reason(4));
    }

    private static void gainWith() {
        ShadedBooks books = TraderAndOrderTests.fourTraders();
        Check.is(39, books.gainWith(0, 50));
        Check.is(26, books.gainWith(0, 40));
        Check.is(12, books.gainWith(1, 50));
        Check.is(9, books.gainWith(1, 40));
        Check.is(34, books.gainWith(2, 50));
        Check.is(51, books.gainWith(2, 40));
        Check.is(6, books.gainWith(3, 40));
        for (int wrong : WRONG) {
            Check.refuses(NOT_THERE, books, () -> books.gainWith(wrong, wrong));
        }
        Check.refuses(NOT_THERE, books, () -> books.gainWith(4, 121));
        Check.refuses(OUT_OF_RANGE, books, () -> books.gainWith(0, 0));
        Check.refuses(OUT_OF_RANGE, books, () -> books.gainWith(0, 121));
        Check.is(0, new ShadedBooksWith(0, 60).books.gainWith(0, 120));
    }

    /** An object with one trader. */
    private static final class ShadedBooksWith {
        final ShadedBooks books = new ShadedBooks();

        ShadedBooksWith(int side, int value) {
            books.addTrader(side, value);
        }
    }

    private static void gainBehindEquals() {
        ShadedBooks books = new ShadedBooksWith(0, 60).books;
        books.addTrader(0, 50);
        books.addTrader(1, 30);
        books.order(0, 40, 1);
        books.order(2, 40, 1);
        Check.is(0, books.gainWith(1, 40));
        Check.is(50 - 41, books.gainWith(1, 42));
        Check.is(20, books.gainWith(0, 40));
        Check.is(60 - 43, books.gainWith(0, 47));
        Check.is(60 - 80, books.gainWith(0, 120));
    }

    private static void bestShade() {
        ShadedBooks books = TraderAndOrderTests.fourTraders();
        Check.is(14, books.bestShade(0));
        Check.is(4, books.bestShade(1));
        Check.is(0, books.bestShade(2));
        Check.is(0, books.bestShade(3));
        ShadedBooks alone = new ShadedBooksWith(0, 60).books;
        Check.is(0, alone.bestShade(0));
        alone.setShade(0, 1, 30);
        alone.addTrader(1, 10);
        alone.order(1, 20, 1);
        Check.is(39, alone.bestShade(0));
        alone.setValue(0, 99);
        Check.is(50, alone.bestShade(0));
        alone.setValue(0, 15);
        Check.is(0, alone.bestShade(0));
        alone.order(0, 120, 1);
        Check.is(10, alone.bestShade(1));
        for (int wrong : WRONG) {
            Check.refuses(NOT_THERE, books, () -> books.bestShade(wrong));
        }
    }

    private static void bestSplit() {
        ShadedBooks books = TraderAndOrderTests.fourTraders();
        books.addTrader(1, 20);
        int[] due = {0, 0, 10, 10, 0};
        for (int trader = 0; trader < 5; trader++) {
            Check.is(due[trader], books.bestSplit(trader));
        }
        for (int wrong : WRONG) {
            Check.refuses(NOT_THERE, books, () -> books.bestSplit(wrong));
        }
        books.clear();
        Check.is(NONE, books.bestSplit(0));
        Check.refuses(NOT_THERE, books, () -> books.bestSplit(5));
        books.order(2, 44, 9);
        books.order(0, 44, 5);
        Check.is(44, books.now(0));
        Check.is(0, books.bestSplit(2));
    }

    private static void goneIn() {
        ShadedBooks books = TraderAndOrderTests.fourTraders();
        int[] due = {1, 1, 1, 3};
        for (int order = 0; order < 4; order++) {
            Check.is(due[order], books.goneIn(order));
        }
        books.set(1, 9);
        Check.is(9, books.goneIn(3));
        books.clear();
        Check.is(8, books.goneIn(3));
        books.set(1, 1);
        Check.is(1, books.goneIn(3));
        books.set(1, 5);
        books.order(0, 45, 1);
        Check.is(1, books.goneIn(3));
        Check.is(1, books.goneIn(4));
        books.cancel(4);
        books.order(0, 44, 1);
        Check.is(4, books.goneIn(3));
        Check.is(5, books.goneIn(5));
    }

    private static void nothingChanges() {
        ShadedBooks books = TraderAndOrderTests.fourTraders();
        books.setShade(3, 3, 7);
        books.clear();
        books.bid(0, 2);
        books.bid(3, 2);
        long before = books.digest();
        books.filled(3);
        books.reason(3);
        books.gainWith(0, 50);
        books.bestShade(0);
        books.bestShade(3);
        books.bestSplit(0);
        books.goneIn(3);
        books.goneIn(4);
        Check.is(before, books.digest());
        Check.is(3, books.undo());
    }

    private static void fullBook() {
        ShadedBooks books = new ShadedBooksWith(0, 60).books;
        for (int order = 0; order < 19; order++) {
            books.bid(0, 1);
        }
        Check.is(0, books.gainWith(0, 50));
        Check.is(0, books.bestShade(0));
        books.bid(0, 1);
        Check.is(NONE, books.gainWith(0, 50));
        Check.is(NONE, books.bestShade(0));
        Check.refuses(NOT_THERE, books, () -> books.gainWith(1, 50));
        Check.refuses(OUT_OF_RANGE, books, () -> books.gainWith(0, 0));
        Check.refuses(NOT_THERE, books, () -> books.bestShade(1));
    }
}
