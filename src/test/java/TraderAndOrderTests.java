/** Promises 1 to 9: what changes traders, orders and rounds. */
final class TraderAndOrderTests {
    private static final Class<IndexOutOfBoundsException> NOT_THERE = IndexOutOfBoundsException.class;
    private static final Class<IllegalArgumentException> OUT_OF_RANGE = IllegalArgumentException.class;
    private static final Class<IllegalStateException> NOT_NOW = IllegalStateException.class;
    private static final int NONE = ShadedBooks.NONE;
    private static final int[] WRONG = {Integer.MIN_VALUE, -10000, -1, 9, 10000, Integer.MAX_VALUE};

    private TraderAndOrderTests() {
    }

    static void run() {
        Check.test("promise 1: a new object", TraderAndOrderTests::newObject);
        Check.test("promise 2: addTrader", TraderAndOrderTests::addTrader);
        Check.test("promise 2: addTrader refuses", TraderAndOrderTests::addTraderRefuses);
        Check.test("promise 3: setValue", TraderAndOrderTests::setValue);
        Check.test("promise 4: setShade", TraderAndOrderTests::setShade);
        Check.test("promise 4: setShade refuses", TraderAndOrderTests::setShadeRefuses);
        Check.test("promise 5: set", TraderAndOrderTests::set);
        Check.test("promise 6: bid", TraderAndOrderTests::bid);
        Check.test("promise 7: order", TraderAndOrderTests::order);
        Check.test("promise 7: twenty orders", TraderAndOrderTests::twentyOrders);
        Check.test("promise 8: cancel", TraderAndOrderTests::cancel);
        Check.test("promise 9: clear trades and books", TraderAndOrderTests::clear);
        Check.test("promise 9: clear without a range", TraderAndOrderTests::clearWithoutRange);
        Check.test("promise 9: parts of an order, and priority by time", TraderAndOrderTests::parts);
        Check.test("promise 9: learning", TraderAndOrderTests::learning);
        Check.test("promise 9: learning at its ends", TraderAndOrderTests::learningAtItsEnds);
        Check.test("promise 9: orders expire", TraderAndOrderTests::expiry);
        Check.test("promise 9: the life as it is then", TraderAndOrderTests::shorterLife);
        Check.test("promise 9: the last round", TraderAndOrderTests::lastRound);
    }

    /** Buyers of 60 and 50, sellers of 30 and 45, each with an honest order. */
    static ShadedBooks fourTraders() {
        ShadedBooks books = new ShadedBooks();
        books.addTrader(0, 60);
        books.addTrader(0, 50);
        books.addTrader(1, 30);
        books.addTrader(1, 45);
        books.bid(0, 2);
        books.bid(1, 3);
        books.bid(2, 2);
        books.bid(3, 4);
        return books;
    }

    static void wholeIs(ShadedBooks books, int... want) {
        for (int what = 0; what < want.length; what++) {
            Check.is(want[what], books.whole(what));
        }
    }

    static void traderIs(ShadedBooks books, int trader, int... want) {
        for (int what = 0; what < want.length; what++) {
            Check.is(want[what], books.trader(trader, what));
        }
    }

    static void tradeIs(ShadedBooks books, int index, int... want) {
        for (int what = 0; what < want.length; what++) {
            Check.is(want[what], books.trade(index, what));
        }
    }

    private static void newObject() {
        ShadedBooks books = new ShadedBooks();
        wholeIs(books, 0, 0, 0, 5, 3, 0, 0, 0, NONE, 0, 0, 0);
        Check.refuses(NOT_NOW, books, books::undo);
        Check.refuses(NOT_THERE, books, () -> books.trader(0, 0));
        Check.refuses(NOT_THERE, books, () -> books.orderOf(0, 0));
        Check.is(0, books.clearCommands());
    }

    private static void addTrader() {
        ShadedBooks books = new ShadedBooks();
        Check.is(0, books.addTrader(0, 1));
        Check.is(1, books.addTrader(1, 99));
        traderIs(books, 0, 0, 1, 0, 0, 1, 0, 0, 0, 0, 0);
        traderIs(books, 1, 1, 99, 0, 0, 99, 0, 0, 0, 0, 0);
        Check.is(2, books.whole(0));
        Check.is(1, books.undo());
        Check.refuses(NOT_THERE, books, () -> books.trader(1, 0));
        Check.is(1, books.addTrader(0, 7));
        traderIs(books, 1, 0, 7, 0, 0, 7, 0, 0, 0, 0, 0);
    }

    private static void addTraderRefuses() {
        ShadedBooks books = new ShadedBooks();
        Check.refuses(OUT_OF_RANGE, books, () -> books.addTrader(-1, 5));
        Check.refuses(OUT_OF_RANGE, books, () -> books.addTrader(2, 5));
        Check.refuses(OUT_OF_RANGE, books, () -> books.addTrader(0, 0));
        Check.refuses(OUT_OF_RANGE, books, () -> books.addTrader(1, 100));
        for (int trader = 0; trader < 8; trader++) {
            Check.is(trader, books.addTrader(trader % 2, 1 + trader));
        }
        Check.refuses(NOT_NOW, books, () -> books.addTrader(0, 5));
        Check.refuses(OUT_OF_RANGE, books, () -> books.addTrader(2, 5));
        Check.refuses(OUT_OF_RANGE, books, () -> books.addTrader(0, 100));
    }

    private static void setValue() {
        ShadedBooks books = fourTraders();
        Check.is(60, books.setValue(0, 99));
        Check.is(99, books.setValue(0, 1));
        Check.is(1, books.trader(0, 4));
        Check.is(60, books.orderOf(0, 1));
        Check.is(3, books.undo());
        Check.is(99, books.trader(0, 1));
        for (int wrong : WRONG) {
            Check.refuses(NOT_THERE, books, () -> books.setValue(wrong, 5));
            Check.refuses(NOT_THERE, books, () -> books.setValue(wrong, 0));
        }
        Check.refuses(NOT_THERE, books, () -> books.setValue(4, 5));
        Check.refuses(OUT_OF_RANGE, books, () -> books.setValue(3, 0));
        Check.refuses(OUT_OF_RANGE, books, () -> books.setValue(3, 100));
    }

    private static void setShade() {
        ShadedBooks books = new ShadedBooks();
        books.addTrader(0, 47);
        books.addTrader(1, 93);
        Check.is(47, books.setShade(0, 0, 20));
        Check.is(20, books.trader(0, 3));
        Check.is(27, books.setShade(0, 1, 20));
        Check.is(38, books.setShade(0, 2, 20));
        Check.is(27, books.setShade(0, 3, 20));
        Check.is(1, books.setShade(0, 1, 46));
        Check.is(1, books.setShade(0, 3, 50));
        Check.is(24, books.setShade(0, 2, 50));
        Check.is(93, books.setShade(1, 0, 50));
        Check.is(120, books.setShade(1, 1, 27));
        Check.is(120, books.setShade(1, 1, 28));
        Check.is(119, books.setShade(1, 3, 26));
        Check.is(120, books.setShade(1, 2, 30));
        Check.is(119, books.setShade(1, 2, 28));
        Check.is(3, books.undo());
        traderIs(books, 1, 1, 93, 2, 30, 120);
    }

    private static void setShadeRefuses() {
        ShadedBooks books = fourTraders();
        for (int wrong : WRONG) {
            Check.refuses(NOT_THERE, books, () -> books.setShade(wrong, 9, 99));
            Check.refuses(OUT_OF_RANGE, books, () -> books.setShade(0, wrong, 0));
        }
        Check.refuses(OUT_OF_RANGE, books, () -> books.setShade(0, 4, 0));
        Check.refuses(OUT_OF_RANGE, books, () -> books.setShade(0, 0, -1));
        Check.refuses(OUT_OF_RANGE, books, () -> books.setShade(0, 0, 51));
    }

    private static void set() {
        ShadedBooks books = new ShadedBooks();
        Check.is(5, books.set(0, 0));
        Check.is(0, books.set(0, 10));
        Check.is(3, books.set(1, 1));
        Check.is(1, books.set(1, 9));
        wholeIs(books, 0, 0, 0, 10, 9);
        Check.is(3, books.undo());
        wholeIs(books, 0, 0, 0, 10, 1);
        Check.refuses(OUT_OF_RANGE, books, () -> books.set(-1, 5));
        Check.refuses(OUT_OF_RANGE, books, () -> books.set(2, 5));
        Check.refuses(OUT_OF_RANGE, books, () -> books.set(0, -1));
        Check.refuses(OUT_OF_RANGE, books, () -> books.set(0, 11));
        Check.refuses(OUT_OF_RANGE, books, () -> books.set(1, 0));
        Check.refuses(OUT_OF_RANGE, books, () -> books.set(1, 10));
    }

    private static void bid() {
        ShadedBooks books = new ShadedBooks();
        books.addTrader(0, 60);
        books.addTrader(1, 30);
        books.setShade(0, 1, 7);
        books.setShade(1, 2, 50);
        Check.is(0, books.bid(0, 1));
        Check.is(1, books.bid(1, 9));
        Check.is(53, books.orderOf(0, 1));
        Check.is(45, books.orderOf(1, 1));
        Check.is(9, books.orderOf(1, 2));
        books.setShade(0, 1, 0);
        Check.is(53, books.orderOf(0, 1));
        Check.is(3, books.undo());
        Check.is(2, books.undo());
        Check.is(1, books.whole(5));
        Check.is(1, books.bid(0, 2));
        Check.refuses(NOT_THERE, books, () -> books.bid(2, 0));
        Check.refuses(NOT_THERE, books, () -> books.bid(-1, 1));
        Check.refuses(OUT_OF_RANGE, books, () -> books.bid(0, 0));
        Check.refuses(OUT_OF_RANGE, books, () -> books.bid(0, 10));
    }

    private static void order() {
        ShadedBooks books = new ShadedBooks();
        books.addTrader(0, 60);
        books.addTrader(1, 30);
        Check.is(0, books.order(0, 120, 9));
        Check.is(1, books.order(1, 1, 1));
        Check.is(120, books.orderOf(0, 1));
        Check.is(9, books.orderOf(0, 2));
        Check.is(1, books.orderOf(1, 1));
        Check.refuses(NOT_THERE, books, () -> books.order(2, 0, 0));
        Check.refuses(NOT_THERE, books, () -> books.order(-1, 5, 5));
        Check.refuses(OUT_OF_RANGE, books, () -> books.order(0, 0, 1));
        Check.refuses(OUT_OF_RANGE, books, () -> books.order(0, 121, 1));
        Check.refuses(OUT_OF_RANGE, books, () -> books.order(0, 1, 0));
        Check.refuses(OUT_OF_RANGE, books, () -> books.order(0, 1, 10));
    }

    private static void twentyOrders() {
        ShadedBooks books = new ShadedBooks();
        books.addTrader(0, 60);
        for (int order = 0; order < 20; order++) {
            Check.is(order, order % 2 == 0 ? books.bid(0, 1) : books.order(0, 50, 2));
        }
        Check.is(20, books.whole(1));
        Check.refuses(NOT_NOW, books, () -> books.bid(0, 1));
        Check.refuses(NOT_NOW, books, () -> books.order(0, 50, 1));
        Check.refuses(NOT_THERE, books, () -> books.bid(1, 1));
        Check.refuses(OUT_OF_RANGE, books, () -> books.bid(0, 0));
        Check.refuses(OUT_OF_RANGE, books, () -> books.order(0, 121, 1));
        books.cancel(7);
        Check.is(20, books.bid(0, 1));
        Check.refuses(NOT_NOW, books, () -> books.bid(0, 1));
    }

    private static void cancel() {
        ShadedBooks books = fourTraders();
        Check.is(3, books.cancel(1));
        Check.is(3, books.whole(1));
        Check.refuses(NOT_THERE, books, () -> books.cancel(1));
        Check.refuses(NOT_THERE, books, () -> books.cancel(4));
        Check.refuses(NOT_THERE, books, () -> books.cancel(-1));
        Check.is(30, books.orderOf(2, 1));
        Check.is(45, books.orderOf(3, 1));
        Check.is(4, books.bid(1, 1));
        Check.is(3, books.undo());
        Check.is(2, books.undo());
        Check.is(3, books.orderOf(1, 2));
        books.clear();
        Check.is(1, books.cancel(3));
        Check.refuses(NOT_THERE, books, () -> books.cancel(3));
    }

    private static void clear() {
        ShadedBooks books = fourTraders();
        Check.is(5, books.clear());
        wholeIs(books, 4, 1, 1, 5, 3, 4, 5, 75, 47, 2, 0, 0);
        tradeIs(books, 0, 0, 2, 2, 0, 2);
        tradeIs(books, 1, 1, 3, 3, 1, 3);
        tradeIs(books, 2, NONE, NONE, NONE, NONE, NONE);
        traderIs(books, 0, 0, 60, 0, 0, 60, 0, 0, 2, 26, -94);
        traderIs(books, 1, 0, 50, 0, 0, 50, 0, 0, 3, 9, -141);
        traderIs(books, 2, 1, 30, 0, 0, 30, 0, 0, 2, 34, 94);
        traderIs(books, 3, 1, 45, 0, 0, 45, 1, 1, 3, 6, 141);
        Check.is(3, books.undo());
        wholeIs(books, 4, 4, 0, 5, 3, 4, 0, 0, NONE, 0, 0, 0);
        traderIs(books, 0, 0, 60, 0, 0, 60, 1, 2, 0, 0, 0);
    }

    private static void clearWithoutRange() {
        ShadedBooks books = fourTraders();
        books.clear();
        Check.is(0, books.clear());
        wholeIs(books, 4, 1, 2, 5, 3, 4, 5, 75, NONE, 0, 0, 0);
        Check.is(NONE, books.trade(0, 0));
        Check.is(0, books.clear());
        wholeIs(books, 4, 0, 3, 5, 3, 4, 5, 75, NONE, 0, 1, 0);
    }

    private static void parts() {
        ShadedBooks books = new ShadedBooks();
        books.addTrader(0, 60);
        books.addTrader(0, 60);
        books.addTrader(1, 30);
        books.order(0, 50, 2);
        books.order(1, 55, 1);
        books.order(1, 50, 2);
        books.order(2, 40, 1);
        books.order(2, 40, 3);
        Check.is(4, books.clear());
        tradeIs(books, 0, 1, 3, 1, 1, 2);
        tradeIs(books, 1, 0, 4, 2, 0, 2);
        tradeIs(books, 2, 2, 4, 1, 1, 2);
        Check.is(3, books.whole(9));
        Check.is(1, books.orderOf(2, 2));
        Check.is(0, books.orderOf(2, 3));
        Check.refuses(NOT_THERE, books, () -> books.orderOf(0, 0));
        Check.refuses(NOT_THERE, books, () -> books.orderOf(4, 0));
    }

    private static void learning() {
        ShadedBooks books = new ShadedBooks();
        books.addTrader(0, 60);
        books.addTrader(0, 50);
        books.addTrader(0, 40);
        books.addTrader(0, 60);
        books.addTrader(1, 30);
        for (int trader = 0; trader < 5; trader++) {
            books.setShade(trader, trader == 3 ? 1 : 3, 10);
        }
        books.order(0, 60, 1);
        books.order(0, 58, 1);
        books.order(1, 50, 2);
        books.order(2, 10, 1);
        books.order(3, 60, 1);
        Check.is(0, books.trader(4, 5));
        books.order(4, 30, 4);
        Check.is(4, books.clear());
        Check.is(11, books.trader(0, 3));
        Check.is(10, books.trader(1, 3));
        Check.is(9, books.trader(2, 3));
        Check.is(10, books.trader(3, 3));
        Check.is(11, books.trader(4, 3));
        Check.is(0, books.clear());
        Check.is(11, books.trader(0, 3));
        Check.is(9, books.trader(1, 3));
        Check.is(8, books.trader(2, 3));
        Check.is(11, books.trader(4, 3));
        Check.is(41, books.trader(4, 4));
    }

    private static void learningAtItsEnds() {
        ShadedBooks books = new ShadedBooks();
        books.addTrader(0, 60);
        books.addTrader(1, 30);
        books.setShade(0, 3, 50);
        books.setShade(1, 3, 49);
        books.order(0, 60, 1);
        books.order(1, 30, 1);
        books.clear();
        Check.is(50, books.trader(0, 3));
        Check.is(50, books.trader(1, 3));
        books.setShade(0, 3, 1);
        books.order(0, 5, 1);
        books.clear();
        Check.is(0, books.trader(0, 3));
        books.clear();
        Check.is(0, books.trader(0, 3));
        Check.is(50, books.trader(1, 3));
    }

    private static void expiry() {
        ShadedBooks books = new ShadedBooks();
        books.addTrader(0, 60);
        books.bid(0, 1);
        books.clear();
        books.bid(0, 2);
        books.clear();
        Check.is(2, books.whole(1));
        books.clear();
        Check.is(1, books.whole(1));
        Check.is(1, books.whole(10));
        Check.is(1, books.orderOf(1, 3));
        books.clear();
        Check.is(0, books.whole(1));
        Check.is(2, books.whole(10));
        books.set(1, 1);
        books.bid(0, 1);
        books.clear();
        Check.is(3, books.whole(10));
        Check.is(3, books.undo());
        Check.is(2, books.whole(10));
    }

    private static void shorterLife() {
        ShadedBooks books = new ShadedBooks();
        books.addTrader(0, 60);
        books.set(1, 9);
        books.bid(0, 1);
        for (int round = 0; round < 5; round++) {
            books.clear();
        }
        books.bid(0, 1);
        books.set(1, 2);
        books.clear();
        Check.is(1, books.whole(10));
        Check.is(5, books.orderOf(1, 3));
        books.set(1, 9);
        books.undo();
        books.undo();
        books.set(1, 9);
        for (int round = 5; round < 8; round++) {
            books.clear();
        }
        Check.is(2, books.whole(1));
        books.clear();
        Check.is(1, books.whole(1));
    }

    private static void lastRound() {
        ShadedBooks books = new ShadedBooks();
        books.addTrader(0, 60);
        for (int round = 0; round < 9999; round++) {
            books.clear();
        }
        Check.is(9999, books.whole(2));
        Check.is(0, books.bid(0, 1));
        Check.is(3, books.goneIn(0));
        Check.is(0, books.filled(0));
        Check.refuses(NOT_NOW, books, books::clear);
        CommandTests.type(books, "set 0 1;clear;set 0 2");
        CommandTests.type(books, ";");
        Check.is(1, books.runCommands());
        Check.is(1, books.whole(3));
    }
}
