/** The pasts that the tests of edges begin with. */
final class Scenes {
    private Scenes() {
    }

    /** Trader 0 buys, trader 1 sells. */
    static ShadedBooks two(int buyer, int seller) {
        ShadedBooks books = new ShadedBooks();
        books.addTrader(0, buyer);
        books.addTrader(1, seller);
        return books;
    }

    static void nothing(ShadedBooks books) {
        Check.is(0, books.whole(5));
    }

    /**
     * Traders 0 to 3; the orders 3, 4 and 5 in the book, 0 to 2 gone; two trades in the last round; the undo stack
     * full, each state another; a text of two commands.
     */
    static void busy(ShadedBooks books) {
        books.addTrader(0, 60);
        books.addTrader(0, 50);
        books.addTrader(1, 30);
        books.addTrader(1, 45);
        books.setShade(0, 3, 4);
        books.setShade(3, 3, 0);
        books.order(0, 60, 2);
        books.order(1, 50, 3);
        books.order(2, 30, 2);
        books.order(3, 45, 4);
        books.clear();
        books.order(0, 40, 3);
        books.order(3, 46, 2);
        books.set(1, 4);
        CommandTests.type(books, "set 0 1;clear;");
    }

    /** A trader who buys, one who sells, and the greatest number of orders: 20. */
    static void full(ShadedBooks books) {
        nearlyFull(books);
        books.order(0, 50, 1);
    }

    /** As many traders, and one order fewer. */
    static void nearlyFull(ShadedBooks books) {
        books.addTrader(0, 60);
        books.addTrader(1, 30);
        for (int order = 0; order < 19; order++) {
            books.order(order % 2, order % 2 == 0 ? 40 + order : 90 - order, 1 + order % 9);
        }
    }

    /** The greatest number of traders: 8. */
    static void crowd(ShadedBooks books) {
        for (int trader = 0; trader < 8; trader++) {
            books.addTrader(trader % 2, 10 + trader);
        }
    }

    /** A text of the greatest length: 150 bytes. */
    static void written(ShadedBooks books) {
        books.addTrader(0, 60);
        CommandTests.type(books, "clear;".repeat(25));
    }

    /** The round 9999, the last one. */
    static void late(ShadedBooks books) {
        books.addTrader(0, 60);
        books.addTrader(1, 30);
        for (int round = 0; round < 9999; round++) {
            books.clear();
        }
        books.order(0, 50, 2);
        books.order(1, 40, 1);
    }

    static void nowIs(ShadedBooks books, int... want) {
        for (int what = 0; what < want.length; what++) {
            Check.is(want[what], books.now(what));
        }
    }
}
