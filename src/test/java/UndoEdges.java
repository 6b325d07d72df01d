/** Undo and exceptions: for each sentence that names an edge, a test of its own. */
final class UndoEdges {
    private static final Class<IndexOutOfBoundsException> NOT_THERE = IndexOutOfBoundsException.class;
    private static final Class<IllegalArgumentException> OUT_OF_RANGE = IllegalArgumentException.class;
    private static final Class<IllegalStateException> NOT_NOW = IllegalStateException.class;
    private static final int NONE = ShadedBooks.NONE;

    private UndoEdges() {
    }

    static void run() {
        Check.test("edge: the stack keeps the latest 4", UndoEdges::latestFour);
        Check.test("edge: the stack goes round and round", UndoEdges::roundAndRound);
        Check.test("edge: saved, also if the call changes nothing", UndoEdges::alsoWithoutChange);
        Check.test("edge: the saved state is the one from before the call", UndoEdges::fromBefore);
        Check.test("edge: the whole state is restored", UndoEdges::wholeState);
        Check.test("edge: the whole state is restored behind trades and expiry", UndoEdges::tradesAndExpiry);
        Check.test("edge: all but the command text", UndoEdges::butTheText);
        Check.test("edge: undo of an empty stack", UndoEdges::emptyStack);
        Check.test("edge: undo itself saves nothing", UndoEdges::undoSavesNothing);
        Check.test("edge: a refused call saves nothing, with a full stack too", UndoEdges::refusedSavesNothing);
        Check.test("edge: calls that are not undoable save nothing, with a full stack too", UndoEdges::othersSaveNothing);
        Check.test("edge: the exception that is listed first", UndoEdges::listedFirst);
        Check.test("edge: NONE only if no exception applies", UndoEdges::noneOnlyThen);
        Check.test("edge: NONE is -10000", () -> Check.is(-10000, NONE));
    }

    private static void latestFour() {
        for (int saves = 0; saves <= 6; saves++) {
            ShadedBooks books = new ShadedBooks();
            for (int value = 1; value <= saves; value++) {
                books.set(1, value);
            }
            for (int left = Math.min(saves, 4) - 1; left >= 0; left--) {
                Check.is(left, books.undo());
                int before = saves - Math.min(saves, 4) + left;
                Check.is(before == 0 ? 3 : before, books.whole(4));
            }
            Check.refuses(NOT_NOW, books, books::undo);
        }
    }

    private static void roundAndRound() {
        ShadedBooks books = new ShadedBooks();
        books.set(0, 10);
        for (int saves = 0; saves < 23; saves++) {
            books.set(0, saves % 10);
            books.set(0, 10);
            Check.is(Math.min(2 * saves + 2, 3), books.undo());
            Check.is(saves % 10, books.whole(3));
        }
        int[] due = {1, 0, 9};
        for (int index = 0; index < due.length; index++) {
            Check.is(2 - index, books.undo());
            Check.is(due[index], books.whole(3));
        }
        Check.refuses(NOT_NOW, books, books::undo);
    }

    private static void alsoWithoutChange() {
        ShadedBooks books = Scenes.two(60, 30);
        Twins.Call[] calls = {b -> b.setValue(0, 60), b -> b.setShade(0, 0, 0), b -> b.set(0, 5), b -> b.set(1, 3),
            ShadedBooks::runCommands};
        long[] due = {60, 60, 5, 3, 0};
        books.undo();
        books.undo();
        books.addTrader(0, 60);
        for (int call = 0; call < calls.length; call++) {
            long before = books.digest();
            Check.is(due[call], calls[call].answerOf(books));
            Check.yes(before != books.digest(), "nothing was saved by call " + call);
            Check.is(1, books.undo());
            Check.is(before, books.digest());
        }
    }

    private static void fromBefore() {
        Twins.Call[] calls = {b -> b.addTrader(1, 9), b -> b.setValue(0, 9), b -> b.setShade(0, 1, 9), b -> b.set(0, 9),
            b -> b.set(1, 9), b -> b.bid(0, 9), b -> b.order(1, 9, 9), b -> b.cancel(3), ShadedBooks::clear,
            ShadedBooks::runCommands};
        for (Twins.Call call : calls) {
            ShadedBooks books = Twins.born(Scenes::busy);
            books.undo();
            long before = books.digest();
            call.answerOf(books);
            Check.yes(before != books.digest(), "nothing was changed");
            Check.is(3, books.undo());
            Check.is(before, books.digest());
        }
    }

    private static void wholeState() {
        ShadedBooks books = Twins.born(Scenes::busy);
        books.undo();
        long before = books.digest();
        CommandTests.type(books, "buyer 5;set 1 1;");
        books.clearCommands();
        CommandTests.type(books, "buyer 5;clear;;;");
        books.clearCommands();
        CommandTests.type(books, "set 0 1;clear;");
        Check.is(before, books.digest());
        books.order(3, 40, 1);
        Check.is(6, books.whole(5) - 1);
        books.undo();
        books.set(1, 1);
        books.undo();
        books.clear();
        Check.yes(books.trade(0, 0) == NONE, "there was a trade");
        books.undo();
        Check.is(before, books.digest());
        TraderAndOrderTests.tradeIs(books, 0, 0, 2, 2, 0, 2);
        Check.is(47, books.whole(8));
        Check.is(6, books.order(0, 1, 1));
    }

    private static void tradesAndExpiry() {
        Twins.Past past = books -> {
            Scenes.busy(books);
            books.order(1, 50, 2);
            books.order(0, 20, 1);
            books.set(1, 1);
            books.setShade(2, 3, 9);
        };
        ShadedBooks books = Twins.born(past);
        Check.is(2, books.clear());
        TraderAndOrderTests.wholeIs(books, 4, 0, 2, 5, 1, 8, 7, 85, 48, 2, 3, 14);
        TraderAndOrderTests.tradeIs(books, 0, 6, 3, 1, 1, 3);
        TraderAndOrderTests.tradeIs(books, 1, 6, 5, 1, 1, 3);
        Check.is(3, books.undo());
        TraderAndOrderTests.wholeIs(books, 4, 5, 1, 5, 1, 8, 5, 75, 47, 2, 0, 14);
        TraderAndOrderTests.tradeIs(books, 0, 0, 2, 2, 0, 2);
        TraderAndOrderTests.tradeIs(books, 1, 1, 3, 3, 1, 3);
        TraderAndOrderTests.traderIs(books, 1, 0, 50, 0, 0, 50, 1, 2, 3, 9, -141);
        TraderAndOrderTests.traderIs(books, 3, 1, 45, 3, 0, 45, 2, 3, 3, 6, 141);
        TraderAndOrderTests.traderIs(books, 0, 0, 60, 3, 5, 55, 2, 4, 2, 26, -94);
        for (int order = 3; order <= 7; order++) {
            Check.is(Twins.born(past).orderOf(order, 2), books.orderOf(order, 2));
        }
        Check.is(2, books.clear());
        Check.is(85, books.whole(7));
        Check.is(3, books.whole(10));
    }

    private static void butTheText() {
        ShadedBooks books = new ShadedBooks();
        CommandTests.type(books, "set 0 1;");
        books.set(0, 9);
        books.clearCommands();
        CommandTests.type(books, "set 0 2");
        Check.is(0, books.undo());
        Check.is(7, books.whole(11));
        Check.is(-17, books.runCommands());
        books.type(';');
        Check.is(1, books.runCommands());
        Check.is(2, books.whole(3));
        Check.is(0, books.undo());
        Check.is(8, books.whole(11));
        Check.is(5, books.whole(3));
    }

    private static void emptyStack() {
        Twins.refuse(NOT_NOW, Scenes::nothing, ShadedBooks::undo);
        Twins.refuse(NOT_NOW, books -> {
            books.addTrader(0, 60);
            books.undo();
            CommandTests.type(books, "clear;");
        }, ShadedBooks::undo);
        Twins.refuse(NOT_NOW, books -> {
            Scenes.busy(books);
            for (int left = 3; left >= 0; left--) {
                Check.is(left, books.undo());
            }
        }, ShadedBooks::undo);
    }

    private static void undoSavesNothing() {
        ShadedBooks books = new ShadedBooks();
        books.set(0, 1);
        books.set(0, 2);
        Check.is(1, books.undo());
        Check.is(0, books.undo());
        Check.is(5, books.whole(3));
        Check.refuses(NOT_NOW, books, books::undo);
        books.set(0, 7);
        Check.is(0, books.undo());
        Check.is(5, books.whole(3));
    }

    private static void refusedSavesNothing() {
        Twins.refuse(OUT_OF_RANGE, Scenes::busy, books -> books.addTrader(2, 5));
        Twins.refuse(OUT_OF_RANGE, Scenes::busy, books -> books.setValue(0, 0));
        Twins.refuse(OUT_OF_RANGE, Scenes::busy, books -> books.setShade(0, 4, 5));
        Twins.refuse(OUT_OF_RANGE, Scenes::busy, books -> books.set(0, 11));
        Twins.refuse(OUT_OF_RANGE, Scenes::busy, books -> books.bid(0, 0));
        Twins.refuse(OUT_OF_RANGE, Scenes::busy, books -> books.order(0, 0, 1));
        Twins.refuse(NOT_THERE, Scenes::busy, books -> books.cancel(6));
        Twins.refuse(NOT_NOW, Scenes::crowd, books -> books.addTrader(0, 5));
        Twins.refuse(NOT_NOW, Scenes::full, books -> books.bid(0, 1));
        Twins.refuse(NOT_NOW, Scenes::full, books -> books.order(0, 1, 1));
        Twins.refuse(NOT_NOW, Scenes::late, ShadedBooks::clear);
    }

    private static void othersSaveNothing() {
        Twins.leave(60, Scenes::busy, books -> books.trader(0, 1));
        Twins.leave(45, Scenes::busy, books -> books.orderOf(3, 1));
        Twins.leave(2, Scenes::busy, books -> books.trade(0, 2));
        Twins.leave(3, Scenes::busy, books -> books.at(40, 0));
        Twins.leave(0, Scenes::busy, books -> books.now(3));
        Twins.leave(14, Scenes::busy, books -> books.whole(11));
        Twins.leave(0, Scenes::busy, books -> books.filled(4));
        Twins.leave(1, Scenes::busy, books -> books.reason(4));
        Twins.leave(15, Scenes::busy, books -> books.gainWith(0, 45));
        Twins.leave(14, Scenes::busy, books -> books.bestShade(0));
        Twins.leave(NONE, Scenes::busy, books -> books.bestSplit(0));
        Twins.leave(3, Scenes::busy, books -> books.goneIn(3));
        long digest = Twins.born(Scenes::busy).digest();
        Twins.leave(digest, Scenes::busy, ShadedBooks::digest);
        ShadedBooks books = Twins.born(Scenes::busy);
        Check.is(14, books.clearCommands());
        CommandTests.type(books, "set 0 1;clear;");
        Check.are(Twins.portrait(Twins.born(Scenes::busy)), Twins.portrait(books));
    }

    private static void listedFirst() {
        Twins.refuse(OUT_OF_RANGE, Scenes::crowd, books -> books.addTrader(2, 5));
        Twins.refuse(OUT_OF_RANGE, Scenes::crowd, books -> books.addTrader(0, 100));
        Twins.refuse(NOT_THERE, Scenes::busy, books -> books.setValue(4, 0));
        Twins.refuse(NOT_THERE, Scenes::busy, books -> books.setShade(4, 4, 51));
        Twins.refuse(NOT_THERE, Scenes::full, books -> books.bid(2, 10));
        Twins.refuse(NOT_THERE, Scenes::full, books -> books.bid(2, 1));
        Twins.refuse(OUT_OF_RANGE, Scenes::full, books -> books.bid(0, 10));
        Twins.refuse(NOT_THERE, Scenes::full, books -> books.order(2, 121, 10));
        Twins.refuse(NOT_THERE, Scenes::full, books -> books.order(2, 50, 1));
        Twins.refuse(OUT_OF_RANGE, Scenes::full, books -> books.order(0, 121, 1));
        Twins.refuse(OUT_OF_RANGE, Scenes::full, books -> books.order(0, 120, 10));
        Twins.refuse(NOT_THERE, Scenes::busy, books -> books.trader(4, 10));
        Twins.refuse(NOT_THERE, Scenes::busy, books -> books.orderOf(6, 5));
        Twins.refuse(NOT_THERE, Scenes::busy, books -> books.gainWith(4, 121));
        Twins.refuse(OUT_OF_RANGE, Scenes::written, books -> books.type(128));
        Twins.refuse(OUT_OF_RANGE, Scenes::written, books -> books.type(-1));
    }

    private static void noneOnlyThen() {
        Twins.refuse(OUT_OF_RANGE, Scenes::nothing, books -> books.trade(0, 5));
        Twins.refuse(OUT_OF_RANGE, Scenes::nothing, books -> books.trade(-1, 0));
        Twins.refuse(OUT_OF_RANGE, Scenes::nothing, books -> books.now(7));
        Twins.refuse(OUT_OF_RANGE, Scenes::nothing, books -> books.now(-1));
        Twins.refuse(NOT_THERE, Scenes::full, books -> books.gainWith(2, 50));
        Twins.refuse(OUT_OF_RANGE, Scenes::full, books -> books.gainWith(0, 121));
        Twins.refuse(NOT_THERE, Scenes::full, books -> books.bestShade(2));
        Twins.refuse(NOT_THERE, Scenes::busy, books -> books.bestSplit(4));
        Twins.leave(NONE, Scenes::full, books -> books.gainWith(0, 120));
        Twins.leave(NONE, Scenes::full, books -> books.bestShade(0));
        Twins.leave(NONE, Scenes::busy, books -> books.bestSplit(3));
        Twins.leave(NONE, Scenes::nothing, books -> books.now(2));
        Twins.leave(NONE, Scenes::nothing, books -> books.whole(8));
        Twins.leave(NONE, Scenes::nothing, books -> books.trade(0, 4));
    }
}
