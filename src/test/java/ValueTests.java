/** Promises 10 to 15: the values of traders, orders, trades, the book, clearing now and the whole. */
final class ValueTests {
    private static final Class<IndexOutOfBoundsException> NOT_THERE = IndexOutOfBoundsException.class;
    private static final Class<IllegalArgumentException> OUT_OF_RANGE = IllegalArgumentException.class;
    private static final int NONE = ShadedBooks.NONE;
    private static final int[] WRONG = {Integer.MIN_VALUE, -10000, -1, 12, 10000, Integer.MAX_VALUE};

    private ValueTests() {
    }

    static void run() {
        Check.test("promise 10: trader", ValueTests::trader);
        Check.test("promise 10: gains by the value at each trade", ValueTests::gains);
        Check.test("promise 11: orderOf", ValueTests::orderOf);
        Check.test("promise 12: trade", ValueTests::trade);
        Check.test("promise 13: at", ValueTests::at);
        Check.test("promise 14: now", ValueTests::now);
        Check.test("promise 14: the lowest and the highest price", ValueTests::ends);
        Check.test("promise 14: the split rounds down", ValueTests::split);
        Check.test("promise 14: hundredths", ValueTests::hundredths);
        Check.test("promise 15: whole", ValueTests::whole);
    }

    private static void nowIs(ShadedBooks books, int... want) {
        for (int what = 0; what < want.length; what++) {
            Check.is(want[what], books.now(what));
        }
    }

    private static void trader() {
        ShadedBooks books = TraderAndOrderTests.fourTraders();
        books.setShade(1, 2, 10);
        books.bid(1, 4);
        TraderAndOrderTests.traderIs(books, 1, 0, 50, 2, 10, 45, 2, 7, 0, 0, 0);
        for (int wrong : WRONG) {
            Check.refuses(NOT_THERE, books, () -> books.trader(wrong, wrong));
            Check.refuses(OUT_OF_RANGE, books, () -> books.trader(0, wrong));
        }
        Check.refuses(NOT_THERE, books, () -> books.trader(4, 0));
        Check.refuses(OUT_OF_RANGE, books, () -> books.trader(0, 10));
    }

    private static void gains() {
        ShadedBooks books = new ShadedBooks();
        books.addTrader(0, 60);
        books.addTrader(1, 30);
        books.order(0, 40, 2);
        books.order(1, 40, 1);
        books.clear();
        books.setValue(0, 10);
        books.setValue(1, 50);
        TraderAndOrderTests.traderIs(books, 0, 0, 10, 0, 0, 10, 1, 1, 1, 20, -40);
        books.order(1, 40, 1);
        books.clear();
        TraderAndOrderTests.traderIs(books, 0, 0, 10, 0, 0, 10, 0, 0, 2, -10, -80);
        TraderAndOrderTests.traderIs(books, 1, 1, 50, 0, 0, 50, 0, 0, 2, 0, 80);
        Check.is(-10, books.whole(7));
    }

    private static void orderOf() {
        ShadedBooks books = TraderAndOrderTests.fourTraders();
        books.clear();
        books.order(3, 45, 2);
        books.order(2, 44, 1);
        books.order(0, 20, 5);
        books.order(1, 20, 6);
        books.order(1, 21, 7);
        int[][] due = {{3, 45, 1, 0, 1}, {3, 45, 2, 1, 2}, {2, 44, 1, 1, 0}, {0, 20, 5, 1, 1}, {1, 20, 6, 1, 2}, {1, 21, 7, 1, 0}};
        for (int row = 0; row < due.length; row++) {
            for (int what = 0; what < 5; what++) {
                Check.is(due[row][what], books.orderOf(row + 3, what));
            }
        }
        for (int wrong : WRONG) {
            Check.refuses(NOT_THERE, books, () -> books.orderOf(wrong, wrong));
            Check.refuses(OUT_OF_RANGE, books, () -> books.orderOf(3, wrong));
        }
        Check.refuses(NOT_THERE, books, () -> books.orderOf(0, 0));
        Check.refuses(NOT_THERE, books, () -> books.orderOf(9, 5));
        Check.refuses(OUT_OF_RANGE, books, () -> books.orderOf(8, 5));
    }

    private static void trade() {
        ShadedBooks books = TraderAndOrderTests.fourTraders();
        Check.is(NONE, books.trade(0, 0));
        books.clear();
        TraderAndOrderTests.tradeIs(books, 1, 1, 3, 3, 1, 3);
        Check.is(NONE, books.trade(2, 4));
        Check.is(NONE, books.trade(Integer.MAX_VALUE, 0));
        books.bid(0, 1);
        TraderAndOrderTests.tradeIs(books, 0, 0, 2, 2, 0, 2);
        for (int wrong : WRONG) {
            Check.refuses(OUT_OF_RANGE, books, () -> books.trade(0, wrong));
            Check.refuses(OUT_OF_RANGE, books, () -> books.trade(20, wrong));
        }
        Check.refuses(OUT_OF_RANGE, books, () -> books.trade(-1, 0));
        Check.refuses(OUT_OF_RANGE, books, () -> books.trade(Integer.MIN_VALUE, 0));
        Check.refuses(OUT_OF_RANGE, books, () -> books.trade(0, 5));
    }

    private static void at() {
        ShadedBooks books = TraderAndOrderTests.fourTraders();
        int[][] due = {{1, 5, 0, 0}, {29, 5, 0, 0}, {30, 5, 2, 2}, {44, 5, 2, 2}, {45, 5, 6, 5}, {50, 5, 6, 5}, {51, 2, 6, 2},
            {60, 2, 6, 2}, {61, 0, 6, 0}, {120, 0, 6, 0}};
        for (int[] row : due) {
            for (int what = 0; what < 3; what++) {
                Check.is(row[what + 1], books.at(row[0], what));
            }
        }
        Check.refuses(OUT_OF_RANGE, books, () -> books.at(0, 0));
        Check.refuses(OUT_OF_RANGE, books, () -> books.at(121, 0));
        Check.refuses(OUT_OF_RANGE, books, () -> books.at(Integer.MIN_VALUE, 0));
        Check.refuses(OUT_OF_RANGE, books, () -> books.at(1, -1));
        Check.refuses(OUT_OF_RANGE, books, () -> books.at(1, 3));
    }

    private static void now() {
        ShadedBooks books = TraderAndOrderTests.fourTraders();
        nowIs(books, 45, 50, 47, 5, 75, 75, 100);
        books.setValue(0, 61);
        nowIs(books, 45, 50, 47, 5, 77, 77, 100);
        books.clear();
        nowIs(books, NONE, NONE, NONE, 0, 0, 0, 100);
        books.order(0, 45, 1);
        nowIs(books, 45, 45, 45, 1, 16, 16, 100);
        Check.refuses(OUT_OF_RANGE, books, () -> books.now(-1));
        Check.refuses(OUT_OF_RANGE, books, () -> books.now(7));
    }

    private static void ends() {
        ShadedBooks books = new ShadedBooks();
        books.addTrader(0, 99);
        books.addTrader(1, 1);
        books.order(0, 120, 1);
        books.order(1, 120, 1);
        nowIs(books, 120, 120, 120, 1, 98, 98, 100);
        books.cancel(1);
        books.order(1, 119, 2);
        nowIs(books, 119, 120, 119, 1, 98, 98, 100);
        books.cancel(0);
        books.cancel(2);
        books.order(0, 1, 3);
        books.order(1, 1, 2);
        nowIs(books, 1, 1, 1, 2, 196, 196, 100);
        books.clear();
        Check.is(1, books.whole(8));
        Check.is(1, books.orderOf(3, 2));
    }

    private static void split() {
        ShadedBooks books = new ShadedBooks();
        books.addTrader(0, 60);
        books.addTrader(1, 30);
        books.order(0, 120, 1);
        books.order(1, 1, 1);
        int[] due = {1, 12, 24, 36, 48, 60, 72, 84, 96, 108, 120};
        for (int split = 0; split <= 10; split++) {
            books.set(0, split);
            Check.is(due[split], books.now(2));
        }
    }

    private static void hundredths() {
        ShadedBooks books = new ShadedBooks();
        books.addTrader(0, 60);
        books.addTrader(0, 40);
        books.addTrader(1, 30);
        books.addTrader(1, 50);
        books.order(0, 10, 1);
        books.order(1, 70, 1);
        books.order(2, 60, 1);
        nowIs(books, 60, 70, 65, 1, 10, 30, 33);
        books.cancel(2);
        books.order(3, 20, 1);
        nowIs(books, 20, 70, 45, 1, -10, 10, 0);
        books.setValue(3, 40);
        nowIs(books, 20, 70, 45, 1, 0, 20, 0);
        books.cancel(0);
        nowIs(books, 20, 70, 45, 1, 0, 0, 100);
        books.setValue(3, 41);
        nowIs(books, 20, 70, 45, 1, -1, 0, 0);
    }

    private static void whole() {
        ShadedBooks books = TraderAndOrderTests.fourTraders();
        books.set(0, 10);
        books.set(1, 1);
        books.clear();
        CommandTests.type(books, "clear");
        TraderAndOrderTests.wholeIs(books, 4, 0, 1, 10, 1, 4, 5, 75, 50, 2, 1, 5);
        books.bid(0, 1);
        TraderAndOrderTests.wholeIs(books, 4, 1, 1, 10, 1, 5, 5, 75, 50, 2, 1, 5);
        Check.refuses(OUT_OF_RANGE, books, () -> books.whole(-1));
        Check.refuses(OUT_OF_RANGE, books, () -> books.whole(12));
    }
}
