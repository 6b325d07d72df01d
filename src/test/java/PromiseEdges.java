import java.math.BigInteger;

/** Promises 1 to 26: the least and the greatest number that each call takes, and the next one on either side. */
final class PromiseEdges {
    private static final Class<IndexOutOfBoundsException> NOT_THERE = IndexOutOfBoundsException.class;
    private static final Class<IllegalArgumentException> OUT_OF_RANGE = IllegalArgumentException.class;
    private static final Class<IllegalStateException> NOT_NOW = IllegalStateException.class;
    private static final int NONE = ShadedBooks.NONE;

    /** A call with all of its numbers right but one. */
    interface Asked {
        long answer(ShadedBooks books, int number);
    }

    private PromiseEdges() {
    }

    static void run() {
        runChanges();
        runOrders();
        runValues();
        runQuestions();
        runText();
    }

    private static void runChanges() {
        Check.test("edge, promise 1: nothing is there", PromiseEdges::newObject);
        Check.test("edge, promise 2: side", PromiseEdges::addSide);
        Check.test("edge, promise 2: value", PromiseEdges::addValue);
        Check.test("edge, promise 2: there are 8 traders", PromiseEdges::addToEight);
        Check.test("edge, promise 3: trader", PromiseEdges::valueOfTrader);
        Check.test("edge, promise 3: value", PromiseEdges::value);
        Check.test("edge, promise 3: its orders stay as they are", PromiseEdges::ordersStay);
        Check.test("edge, promise 4: trader", PromiseEdges::shadeOfTrader);
        Check.test("edge, promise 4: kind", PromiseEdges::shadeKind);
        Check.test("edge, promise 4: amount", PromiseEdges::shadeAmount);
        Check.test("edge, promise 5: what", PromiseEdges::setWhat);
        Check.test("edge, promise 5: the split", PromiseEdges::setSplit);
        Check.test("edge, promise 5: the life", PromiseEdges::setLife);
    }

    private static void runOrders() {
        Check.test("edge, promise 6: trader", PromiseEdges::bidTrader);
        Check.test("edge, promise 6: units", PromiseEdges::bidUnits);
        Check.test("edge, promise 6: there are 20 orders", PromiseEdges::bidOfTwenty);
        Check.test("edge, promise 7: trader", PromiseEdges::orderTrader);
        Check.test("edge, promise 7: price", PromiseEdges::orderPrice);
        Check.test("edge, promise 7: units", PromiseEdges::orderUnits);
        Check.test("edge, promise 7: there are 20 orders", PromiseEdges::orderOfTwenty);
        Check.test("edge, promise 8: order", PromiseEdges::cancelOrder);
        Check.test("edge, promise 8: the only, the first, the last order", PromiseEdges::cancelAll);
        Check.test("edge, promise 9: the round is 9999", PromiseEdges::lastRound);
    }

    private static void runValues() {
        Check.test("edge, promise 10: trader", PromiseEdges::traderNumber);
        Check.test("edge, promise 10: what", PromiseEdges::traderWhat);
        Check.test("edge, promise 11: order", PromiseEdges::orderNumber);
        Check.test("edge, promise 11: what", PromiseEdges::orderWhat);
        Check.test("edge, promise 12: index", PromiseEdges::tradeIndex);
        Check.test("edge, promise 12: what", PromiseEdges::tradeWhat);
        Check.test("edge, promise 13: price", PromiseEdges::atPrice);
        Check.test("edge, promise 13: what", PromiseEdges::atWhat);
        Check.test("edge, promise 14: what", PromiseEdges::nowWhat);
        Check.test("edge, promise 14: hundredths of 0, of below 0 and of nothing", PromiseEdges::hundredths);
        Check.test("edge, promise 14: hundredths are rounded down", PromiseEdges::hundredthsRoundDown);
        Check.test("edge, promise 15: what", PromiseEdges::wholeWhat);
        Check.test("edge, promise 15: the price of the last round", PromiseEdges::lastPrice);
    }

    private static void runQuestions() {
        Check.test("edge, promises 16, 17, 21: order", PromiseEdges::askedOrders);
        Check.test("edge, promise 16: none, some and all of its units", PromiseEdges::filled);
        Check.test("edge, promise 17: just as good as the price, and not", PromiseEdges::reason);
        Check.test("edge, promises 18, 19, 20: trader", PromiseEdges::askedTraders);
        Check.test("edge, promise 18: price", PromiseEdges::gainPrice);
        Check.test("edge, promise 18: there are 20 orders", PromiseEdges::gainOfTwenty);
        Check.test("edge, promise 18: with the next number", PromiseEdges::gainNumber);
        Check.test("edge, promise 18: all of its orders, no other one's", PromiseEdges::gainOfAll);
        Check.test("edge, promise 19: from 0 to 50, of several the least", PromiseEdges::bestShade);
        Check.test("edge, promise 19: bids of 1 and of 120", PromiseEdges::bestShadeAtEnds);
        Check.test("edge, promise 19: there are 20 orders", PromiseEdges::shadeOfTwenty);
        Check.test("edge, promise 20: from 0 to 10, of several the least", PromiseEdges::bestSplit);
        Check.test("edge, promise 20: there is no range", PromiseEdges::splitWithoutRange);
        Check.test("edge, promise 21: from 1 to 9 rounds", PromiseEdges::goneIn);
        Check.test("edge, promise 21: the first order in the book and the last one", PromiseEdges::goneInOfAll);
        Check.test("edge, promise 21: also beyond the round 9999", PromiseEdges::goneBeyond);
    }

    private static void runText() {
        Check.test("edge, promise 22: value", PromiseEdges::typeValue);
        Check.test("edge, promise 22: the text has 150 bytes", PromiseEdges::typeFull);
        Check.test("edge, promise 23: an empty text and a full one", PromiseEdges::clearText);
        Check.test("edge, promise 24: the least and the greatest fault", PromiseEdges::runFaults);
        Check.test("edge, promise 25: from 3 left to 0 left", PromiseEdges::undoLeft);
        Check.test("edge, promise 26: the hash of nothing", PromiseEdges::digestOfNothing);
        Check.test("edge, promise 26: overflow wraps", PromiseEdges::digestWraps);
        Check.test("edge, promise 26: the stack, the orders, the trades", PromiseEdges::digestParts);
    }

    /** Refused are the numbers next to the allowed ones, and those at the ends of int. */
    private static void ends(Class<? extends RuntimeException> due, Twins.Past past, int least, int most, Asked call) {
        int[] wrong = {least - 1, most + 1, -most - 1, most + 256, most + 65536, Integer.MIN_VALUE, Integer.MAX_VALUE};
        for (int number : wrong) {
            Twins.refuse(due, past, books -> call.answer(books, number));
        }
        call.answer(Twins.born(past), least);
        call.answer(Twins.born(past), most);
    }

    // ---- promises 1 to 5

    private static void newObject() {
        ShadedBooks books = new ShadedBooks();
        TraderAndOrderTests.wholeIs(books, 0, 0, 0, 5, 3, 0, 0, 0, NONE, 0, 0, 0);
        Scenes.nowIs(books, NONE, NONE, NONE, 0, 0, 0, 100);
        Twins.refuse(NOT_THERE, Scenes::nothing, b -> b.trader(0, 0));
        Twins.refuse(NOT_THERE, Scenes::nothing, b -> b.setValue(0, 5));
        Twins.refuse(NOT_THERE, Scenes::nothing, b -> b.setShade(0, 0, 0));
        Twins.refuse(NOT_THERE, Scenes::nothing, b -> b.bid(0, 1));
        Twins.refuse(NOT_THERE, Scenes::nothing, b -> b.order(0, 1, 1));
        Twins.refuse(NOT_THERE, Scenes::nothing, b -> b.cancel(0));
        Twins.refuse(NOT_THERE, Scenes::nothing, b -> b.orderOf(0, 0));
        Twins.refuse(NOT_THERE, Scenes::nothing, b -> b.filled(0));
        Twins.refuse(NOT_THERE, Scenes::nothing, b -> b.gainWith(0, 1));
        Twins.refuse(NOT_NOW, Scenes::nothing, ShadedBooks::undo);
    }

    private static void addSide() {
        ends(OUT_OF_RANGE, Scenes::busy, 0, 1, (books, side) -> books.addTrader(side, 5));
        ShadedBooks books = Scenes.two(60, 30);
        Check.is(0, books.trader(0, 0));
        Check.is(1, books.trader(1, 0));
    }

    private static void addValue() {
        ends(OUT_OF_RANGE, Scenes::busy, 1, 99, (books, value) -> books.addTrader(0, value));
        ends(OUT_OF_RANGE, Scenes::nothing, 1, 99, (books, value) -> books.addTrader(1, value));
        ShadedBooks books = Scenes.two(1, 99);
        Check.is(1, books.trader(0, 1));
        Check.is(99, books.trader(1, 1));
    }

    private static void addToEight() {
        ShadedBooks books = Twins.born(Scenes::crowd);
        books.undo();
        Check.is(7, books.addTrader(1, 99));
        Twins.refuse(NOT_NOW, Scenes::crowd, b -> b.addTrader(0, 1));
        Twins.refuse(NOT_NOW, Scenes::crowd, b -> b.addTrader(1, 99));
    }

    private static void valueOfTrader() {
        ends(NOT_THERE, Scenes::busy, 0, 3, (books, trader) -> books.setValue(trader, 5));
        ends(NOT_THERE, Scenes::crowd, 0, 7, (books, trader) -> books.setValue(trader, 5));
        ShadedBooks books = Twins.born(Scenes::crowd);
        Check.is(10, books.setValue(0, 98));
        Check.is(17, books.setValue(7, 97));
        Check.is(98, books.setValue(0, 1));
        Check.is(97, books.trader(7, 1));
        Check.is(16, books.trader(6, 1));
    }

    private static void value() {
        ends(OUT_OF_RANGE, Scenes::busy, 1, 99, (books, value) -> books.setValue(3, value));
        ShadedBooks books = Scenes.two(60, 30);
        Check.is(60, books.setValue(0, 1));
        Check.is(1, books.setValue(0, 99));
        Check.is(99, books.setValue(0, 99));
    }

    private static void ordersStay() {
        ShadedBooks books = Scenes.two(60, 30);
        books.bid(0, 1);
        books.bid(1, 1);
        books.setValue(0, 1);
        books.setValue(1, 99);
        Check.is(60, books.orderOf(0, 1));
        Check.is(30, books.orderOf(1, 1));
        Check.is(1, books.trader(0, 4));
        Check.is(99, books.trader(1, 4));
        Scenes.nowIs(books, 30, 60, 45, 1, -98, 0, 0);
    }

    private static void shadeOfTrader() {
        ends(NOT_THERE, Scenes::busy, 0, 3, (books, trader) -> books.setShade(trader, 1, 1));
        ends(NOT_THERE, Scenes::crowd, 0, 7, (books, trader) -> books.setShade(trader, 1, 1));
        ShadedBooks books = Twins.born(Scenes::crowd);
        Check.is(18, books.setShade(7, 1, 1));
        Check.is(0, books.trader(6, 2));
    }

    private static void shadeKind() {
        ends(OUT_OF_RANGE, Scenes::busy, 0, 3, (books, kind) -> books.setShade(0, kind, 5));
        ShadedBooks books = Scenes.two(60, 30);
        int[] bids = {60, 50, 54, 50};
        for (int kind = 0; kind <= 3; kind++) {
            Check.is(bids[kind], books.setShade(0, kind, 10));
            Check.is(kind, books.trader(0, 2));
        }
    }

    private static void shadeAmount() {
        for (int each = 0; each <= 3; each++) {
            int kind = each;
            ends(OUT_OF_RANGE, Scenes::busy, 0, 50, (books, amount) -> books.setShade(1, kind, amount));
        }
        ShadedBooks books = Scenes.two(60, 30);
        Check.is(60, books.setShade(0, 1, 0));
        Check.is(10, books.setShade(0, 1, 50));
        Check.is(50, books.trader(0, 3));
    }

    private static void setWhat() {
        ends(OUT_OF_RANGE, Scenes::busy, 0, 1, (books, what) -> books.set(what, 5));
        ShadedBooks books = new ShadedBooks();
        Check.is(5, books.set(0, 6));
        Check.is(3, books.set(1, 7));
        Check.is(6, books.whole(3));
        Check.is(7, books.whole(4));
    }

    private static void setSplit() {
        ends(OUT_OF_RANGE, Scenes::busy, 0, 10, (books, value) -> books.set(0, value));
        ShadedBooks books = new ShadedBooks();
        Check.is(5, books.set(0, 0));
        Check.is(0, books.set(0, 10));
        Check.is(10, books.whole(3));
        Check.is(3, books.whole(4));
    }

    private static void setLife() {
        ends(OUT_OF_RANGE, Scenes::busy, 1, 9, (books, value) -> books.set(1, value));
        ShadedBooks books = new ShadedBooks();
        Check.is(3, books.set(1, 1));
        Check.is(1, books.set(1, 9));
        Check.is(9, books.whole(4));
        Check.is(5, books.whole(3));
    }

    // ---- promises 6 to 9

    private static void bidTrader() {
        ends(NOT_THERE, Scenes::busy, 0, 3, (books, trader) -> books.bid(trader, 1));
        ends(NOT_THERE, Scenes::crowd, 0, 7, (books, trader) -> books.bid(trader, 1));
        ShadedBooks books = Twins.born(Scenes::crowd);
        Check.is(0, books.bid(7, 1));
        Check.is(7, books.orderOf(0, 0));
        Check.is(17, books.orderOf(0, 1));
    }

    private static void bidUnits() {
        ends(OUT_OF_RANGE, Scenes::busy, 1, 9, (books, units) -> books.bid(3, units));
        ShadedBooks books = Scenes.two(60, 30);
        books.bid(0, 1);
        books.bid(0, 9);
        Check.is(1, books.orderOf(0, 2));
        Check.is(9, books.orderOf(1, 2));
    }

    private static void bidOfTwenty() {
        Check.is(19, Twins.born(Scenes::nearlyFull).bid(0, 9));
        Twins.refuse(NOT_NOW, Scenes::full, books -> books.bid(0, 9));
        Twins.refuse(NOT_NOW, Scenes::full, books -> books.bid(1, 1));
    }

    private static void orderTrader() {
        ends(NOT_THERE, Scenes::busy, 0, 3, (books, trader) -> books.order(trader, 50, 1));
        ends(NOT_THERE, Scenes::crowd, 0, 7, (books, trader) -> books.order(trader, 50, 1));
        ShadedBooks books = Twins.born(Scenes::crowd);
        books.order(7, 50, 1);
        Check.is(7, books.orderOf(0, 0));
    }

    private static void orderPrice() {
        ends(OUT_OF_RANGE, Scenes::busy, 1, 120, (books, price) -> books.order(0, price, 1));
        ends(OUT_OF_RANGE, Scenes::busy, 1, 120, (books, price) -> books.order(2, price, 1));
        ShadedBooks books = Scenes.two(60, 30);
        books.order(1, 1, 1);
        books.order(1, 120, 1);
        Check.is(1, books.orderOf(0, 1));
        Check.is(120, books.orderOf(1, 1));
    }

    private static void orderUnits() {
        ends(OUT_OF_RANGE, Scenes::busy, 1, 9, (books, units) -> books.order(0, 50, units));
        ShadedBooks books = Scenes.two(60, 30);
        books.order(1, 50, 1);
        books.order(1, 50, 9);
        Check.is(1, books.orderOf(0, 2));
        Check.is(9, books.orderOf(1, 2));
    }

    private static void orderOfTwenty() {
        Check.is(19, Twins.born(Scenes::nearlyFull).order(1, 120, 9));
        Twins.refuse(NOT_NOW, Scenes::full, books -> books.order(0, 120, 9));
        Twins.refuse(NOT_NOW, Scenes::full, books -> books.order(1, 1, 1));
    }

    private static void cancelOrder() {
        ends(NOT_THERE, Scenes::busy, 3, 5, PromiseEdges::cancelNumber);
        ends(NOT_THERE, Scenes::full, 0, 19, PromiseEdges::cancelNumber);
        Check.is(1, Twins.born(Scenes::busy).cancel(3));
        Twins.refuse(NOT_THERE, Scenes::busy, books -> books.cancel(0));
        Twins.refuse(NOT_THERE, books -> {
            Scenes.full(books);
            books.cancel(7);
        }, books -> books.cancel(7));
        Twins.refuse(NOT_THERE, books -> {
            books.addTrader(0, 60);
            books.set(1, 1);
            books.bid(0, 1);
            books.clear();
        }, books -> books.cancel(0));
    }

    private static int cancelNumber(ShadedBooks books, int number) {
        return books.cancel(number);
    }

    private static void cancelAll() {
        ShadedBooks books = Scenes.two(60, 30);
        for (int units = 1; units <= 9; units++) {
            books.order(units % 2, units % 2 == 0 ? 40 : 50, units);
        }
        int[] numbers = {8, 0, 4, 1, 7, 3, 5, 6, 2};
        for (int index = 0; index < numbers.length; index++) {
            Check.is(9 - index, books.whole(1));
            Check.is(numbers[index] + 1, books.cancel(numbers[index]));
        }
        Check.is(0, books.whole(1));
        Check.is(0, books.at(50, 1));
        Check.is(9, books.order(0, 50, 1));
        Check.is(1, books.cancel(9));
    }

    private static void lastRound() {
        ShadedBooks books = Twins.born(Scenes::late);
        Check.is(9999, books.whole(2));
        Twins.refuse(NOT_NOW, Scenes::late, ShadedBooks::clear);
        books.undo();
        books.undo();
        books.undo();
        Check.is(9998, books.whole(2));
        Check.is(0, books.clear());
        Check.is(9999, books.whole(2));
        Check.refuses(NOT_NOW, books, books::clear);
    }

    // ---- promises 10 to 15

    private static void traderNumber() {
        ends(NOT_THERE, Scenes::busy, 0, 3, (books, trader) -> books.trader(trader, 0));
        ends(NOT_THERE, Scenes::crowd, 0, 7, (books, trader) -> books.trader(trader, 9));
        Check.is(17, Twins.born(Scenes::crowd).trader(7, 1));
    }

    private static void traderWhat() {
        ends(OUT_OF_RANGE, Scenes::busy, 0, 9, (books, what) -> books.trader(0, what));
        ShadedBooks books = Twins.born(Scenes::busy);
        TraderAndOrderTests.traderIs(books, 0, 0, 60, 3, 5, 55, 1, 3, 2, 26, -94);
        TraderAndOrderTests.traderIs(books, 1, 0, 50, 0, 0, 50, 0, 0, 3, 9, -141);
        TraderAndOrderTests.traderIs(books, 3, 1, 45, 3, 0, 45, 2, 3, 3, 6, 141);
    }

    private static void orderNumber() {
        ends(NOT_THERE, Scenes::busy, 3, 5, (books, order) -> books.orderOf(order, 0));
        ends(NOT_THERE, Scenes::full, 0, 19, (books, order) -> books.orderOf(order, 4));
        Twins.refuse(NOT_THERE, Scenes::busy, books -> books.orderOf(0, 0));
    }

    private static void orderWhat() {
        ends(OUT_OF_RANGE, Scenes::busy, 0, 4, (books, what) -> books.orderOf(3, what));
        ShadedBooks books = Twins.born(Scenes::busy);
        int[][] due = {{3, 45, 1, 0, 0}, {0, 40, 3, 1, 0}, {3, 46, 2, 1, 1}};
        for (int order = 3; order <= 5; order++) {
            for (int what = 0; what <= 4; what++) {
                Check.is(due[order - 3][what], books.orderOf(order, what));
            }
        }
        ShadedBooks twenty = new ShadedBooks();
        twenty.addTrader(1, 30);
        for (int order = 0; order < 20; order++) {
            twenty.order(0, 120 - order, 1);
        }
        Check.is(19, twenty.orderOf(0, 4));
        Check.is(0, twenty.orderOf(19, 4));
    }

    private static void tradeIndex() {
        int[] negative = {-1, -2, -10000, Integer.MIN_VALUE};
        for (int index : negative) {
            Twins.refuse(OUT_OF_RANGE, Scenes::busy, books -> books.trade(index, 0));
            Twins.refuse(OUT_OF_RANGE, Scenes::nothing, books -> books.trade(index, 4));
        }
        int[] beyond = {2, 3, 19, 20, 21, Integer.MAX_VALUE};
        for (int index : beyond) {
            for (int each = 0; each <= 4; each++) {
                int what = each;
                Twins.leave(NONE, Scenes::busy, books -> books.trade(index, what));
                Twins.leave(NONE, Scenes::nothing, books -> books.trade(index, what));
            }
        }
        Check.is(NONE, new ShadedBooks().trade(0, 0));
    }

    private static void tradeWhat() {
        ends(OUT_OF_RANGE, Scenes::busy, 0, 4, (books, what) -> books.trade(0, what));
        ends(OUT_OF_RANGE, Scenes::nothing, 0, 4, (books, what) -> books.trade(7, what));
        ShadedBooks books = Twins.born(Scenes::busy);
        TraderAndOrderTests.tradeIs(books, 0, 0, 2, 2, 0, 2);
        TraderAndOrderTests.tradeIs(books, 1, 1, 3, 3, 1, 3);
        books.bid(0, 1);
        TraderAndOrderTests.tradeIs(books, 1, 1, 3, 3, 1, 3);
        books.clear();
        TraderAndOrderTests.tradeIs(books, 0, 6, 3, 1, 0, 3);
        TraderAndOrderTests.tradeIs(books, 1, NONE, NONE, NONE, NONE, NONE);
    }

    private static void atPrice() {
        ends(OUT_OF_RANGE, Scenes::busy, 1, 120, (books, price) -> books.at(price, 2));
        ShadedBooks books = Twins.born(Scenes::busy);
        Check.is(3, books.at(1, 0));
        Check.is(0, books.at(1, 1));
        Check.is(0, books.at(120, 0));
        Check.is(3, books.at(120, 1));
    }

    private static void atWhat() {
        ends(OUT_OF_RANGE, Scenes::busy, 0, 2, (books, what) -> books.at(1, what));
        ShadedBooks books = Scenes.two(60, 30);
        books.order(0, 60, 9);
        books.order(1, 60, 7);
        Check.is(9, books.at(60, 0));
        Check.is(7, books.at(60, 1));
        Check.is(7, books.at(60, 2));
    }

    private static void nowWhat() {
        ends(OUT_OF_RANGE, Scenes::busy, 0, 6, (books, what) -> books.now(what));
        ends(OUT_OF_RANGE, Scenes::nothing, 0, 6, (books, what) -> books.now(what));
        ShadedBooks books = TraderAndOrderTests.fourTraders();
        Scenes.nowIs(books, 45, 50, 47, 5, 75, 75, 100);
    }

    private static void hundredths() {
        int[][] due = {{60, 30, 100}, {31, 30, 100}, {30, 30, 100}, {29, 30, 0}, {1, 99, 0}, {99, 1, 100}};
        for (int[] row : due) {
            ShadedBooks books = Scenes.two(row[0], row[1]);
            Check.is(100, books.now(6));
            books.order(0, 50, 1);
            books.order(1, 50, 1);
            Check.is(row[2], books.now(6));
        }
        ShadedBooks books = Scenes.two(31, 30);
        books.order(0, 40, 1);
        books.order(1, 41, 1);
        Check.is(0, books.now(4));
        Check.is(1, books.now(5));
        Check.is(0, books.now(6));
        books.setValue(0, 60);
        Check.is(30, books.now(5));
        Check.is(0, books.now(6));
        books.addTrader(1, 61);
        books.order(2, 40, 1);
        Check.is(-1, books.now(4));
        Check.is(30, books.now(5));
        Check.is(0, books.now(6));
    }

    /** One of the two who buy is traded: the one with less value. */
    private static void hundredthsRoundDown() {
        int[][] due = {{99, 99, 100}, {99, 98, 98}, {99, 50, 50}, {99, 2, 1}, {99, 1, 0}, {4, 2, 33}, {4, 3, 66}, {99, 49, 48}};
        for (int[] row : due) {
            ShadedBooks books = Scenes.two(row[0], 1);
            books.addTrader(0, row[1]);
            books.order(0, 49, 1);
            books.order(2, 50, 1);
            books.order(1, 50, 1);
            Check.is(row[1] - 1, books.now(4));
            Check.is(row[0] - 1, books.now(5));
            Check.is(row[2], books.now(6));
        }
    }

    private static void wholeWhat() {
        ends(OUT_OF_RANGE, Scenes::busy, 0, 11, (books, what) -> books.whole(what));
        TraderAndOrderTests.wholeIs(Twins.born(Scenes::busy), 4, 3, 1, 5, 4, 6, 5, 75, 47, 2, 0, 14);
    }

    private static void lastPrice() {
        ShadedBooks books = Scenes.two(60, 30);
        Check.is(NONE, books.whole(8));
        int[] prices = {1, 120, 60};
        for (int price : prices) {
            books.order(0, price, 1);
            books.order(1, price, 1);
            books.clear();
            Check.is(price, books.whole(8));
            Check.is(1, books.whole(9));
        }
        books.clear();
        Check.is(NONE, books.whole(8));
        Check.is(0, books.whole(9));
        books.undo();
        Check.is(60, books.whole(8));
        Check.is(1, books.whole(9));
    }

    // ---- promises 16 to 21

    private static void askedOrders() {
        ends(NOT_THERE, Scenes::busy, 3, 5, (books, order) -> books.filled(order));
        ends(NOT_THERE, Scenes::busy, 3, 5, (books, order) -> books.reason(order));
        ends(NOT_THERE, Scenes::busy, 3, 5, (books, order) -> books.goneIn(order));
        ends(NOT_THERE, Scenes::full, 0, 19, (books, order) -> books.filled(order));
        ends(NOT_THERE, Scenes::full, 0, 19, (books, order) -> books.reason(order));
        ends(NOT_THERE, Scenes::full, 0, 19, (books, order) -> books.goneIn(order));
    }

    private static void filled() {
        ShadedBooks books = Scenes.two(60, 30);
        books.order(0, 50, 9);
        Check.is(0, books.filled(0));
        int[] due = {1, 8, 9, 9};
        int[] units = {1, 7, 1, 1};
        for (int index = 0; index < due.length; index++) {
            int order = books.order(1, 50, units[index]);
            Check.is(due[index], books.filled(0));
            Check.is(index == 3 ? 0 : units[index], books.filled(order));
        }
        books.cancel(0);
        Check.is(0, books.filled(1));
    }

    private static void reason() {
        ShadedBooks books = Scenes.two(60, 30);
        books.order(0, 50, 2);
        books.order(1, 51, 1);
        Check.is(1, books.reason(0));
        Check.is(1, books.reason(1));
        books.order(1, 40, 2);
        Check.is(0, books.reason(0));
        Check.is(0, books.reason(2));
        Check.is(2, books.reason(1));
        int[] buying = {44, 45, 46, 50};
        int[] why = {2, 3, 3, 3};
        for (int index = 0; index < buying.length; index++) {
            int order = books.order(0, buying[index], 1);
            Check.is(45, books.now(2));
            Check.is(why[index], books.reason(order));
            books.cancel(order);
        }
        int[] selling = {46, 45, 44, 40};
        for (int index = 0; index < selling.length; index++) {
            int order = books.order(1, selling[index], 1);
            Check.is(45, books.now(2));
            Check.is(why[index], books.reason(order));
            Check.is(0, books.filled(order));
            books.cancel(order);
        }
        books.order(1, 40, 9);
        books.order(0, 50, 5);
        Check.is(0, books.reason(2));
        int partly = books.whole(5) - 2;
        Check.is(5, books.filled(partly));
        Check.is(3, books.reason(partly));
    }

    private static void askedTraders() {
        ends(NOT_THERE, Scenes::busy, 0, 3, (books, trader) -> books.gainWith(trader, 50));
        ends(NOT_THERE, Scenes::busy, 0, 3, (books, trader) -> books.bestShade(trader));
        ends(NOT_THERE, Scenes::busy, 0, 3, (books, trader) -> books.bestSplit(trader));
        ends(NOT_THERE, Scenes::crowd, 0, 7, (books, trader) -> books.gainWith(trader, 50));
        ends(NOT_THERE, Scenes::crowd, 0, 7, (books, trader) -> books.bestShade(trader));
        ends(NOT_THERE, Scenes::crowd, 0, 7, (books, trader) -> books.bestSplit(trader));
    }

    private static void gainPrice() {
        ends(OUT_OF_RANGE, Scenes::busy, 1, 120, (books, price) -> books.gainWith(0, price));
        ShadedBooks books = Scenes.two(60, 30);
        Check.is(0, books.gainWith(0, 1));
        Check.is(0, books.gainWith(1, 120));
        books.order(0, 120, 1);
        Check.is(90, books.gainWith(1, 120));
        Check.is(30, books.gainWith(1, 1));
        books.order(1, 1, 2);
        Check.is(2 * (60 - 60), books.gainWith(0, 120));
        Check.is(2 * (60 - 30), books.gainWith(0, 60));
        Check.is(2 * (60 - 1), books.gainWith(0, 1));
    }

    private static void gainOfTwenty() {
        Check.yes(Twins.born(Scenes::nearlyFull).gainWith(0, 120) != NONE, "19 orders leave room for one");
        Twins.leave(NONE, Scenes::full, books -> books.gainWith(0, 1));
        Twins.leave(NONE, Scenes::full, books -> books.gainWith(1, 120));
    }

    /** An equal price is behind the others, one better is ahead of them. */
    private static void gainNumber() {
        ShadedBooks books = Scenes.two(60, 30);
        books.addTrader(0, 60);
        books.addTrader(1, 30);
        books.order(0, 50, 1);
        books.order(1, 50, 1);
        Check.is(0, books.gainWith(2, 50));
        Check.is(10, books.gainWith(2, 51));
        Check.is(0, books.gainWith(3, 50));
        Check.is(19, books.gainWith(3, 49));
        books.set(0, 10);
        Check.is(9, books.gainWith(2, 51));
        Check.is(20, books.gainWith(3, 49));
    }

    private static void gainOfAll() {
        ShadedBooks books = Scenes.two(60, 30);
        books.addTrader(0, 60);
        books.order(0, 50, 2);
        books.order(0, 50, 3);
        books.order(2, 50, 4);
        books.order(1, 50, 9);
        Check.is(50, books.gainWith(0, 49));
        Check.is(60, books.gainWith(0, 51));
        Check.is(40, books.gainWith(2, 51));
        Check.is(180, books.gainWith(1, 50));
        books.order(1, 50, 1);
        Check.is(60, books.gainWith(0, 50));
        books.setShade(0, 1, 20);
        Check.is(60, books.gainWith(0, 50));
    }

    private static void bestShade() {
        int[][] due = {{99, 49, 49}, {99, 48, 50}, {99, 50, 48}, {99, 98, 0}, {99, 99, 0}, {99, 100, 0}, {60, 60, 0}, {60, 59, 0},
            {60, 58, 1}, {60, 57, 2}};
        for (int[] row : due) {
            ShadedBooks books = Scenes.two(row[0], 30);
            books.order(1, row[1], 1);
            Check.is(row[2], books.bestShade(0));
        }
        ShadedBooks books = Scenes.two(60, 30);
        Check.is(0, books.bestShade(0));
        Check.is(0, books.bestShade(1));
        books.setShade(1, 2, 50);
        int[][] selling = {{80, 50}, {79, 49}, {81, 49}, {82, 50}, {30, 0}, {31, 1}, {32, 2}, {29, 0}};
        for (int[] row : selling) {
            books.order(0, row[0], 1);
            Check.is(row[1], books.bestShade(1));
            books.undo();
        }
    }

    private static void bestShadeAtEnds() {
        ShadedBooks books = Scenes.two(20, 90);
        books.order(1, 1, 1);
        Check.is(18, books.bestShade(0));
        books.set(0, 10);
        Check.is(19, books.bestShade(0));
        books.cancel(0);
        books.order(0, 120, 1);
        Check.is(0, books.bestShade(1));
        books.set(0, 0);
        Check.is(30, books.bestShade(1));
        books.setValue(1, 70);
        Check.is(50, books.bestShade(1));
        books.setValue(1, 69);
        Check.is(50, books.bestShade(1));
    }

    private static void shadeOfTwenty() {
        Check.yes(Twins.born(Scenes::nearlyFull).bestShade(1) != NONE, "19 orders leave room for one");
        Twins.leave(NONE, Scenes::full, books -> books.bestShade(0));
        Twins.leave(NONE, Scenes::full, books -> books.bestShade(1));
    }

    private static void bestSplit() {
        int[][] due = {{40, 50, 0, 10}, {40, 41, 0, 10}, {40, 40, 0, 0}, {40, 42, 0, 10}, {1, 120, 0, 10}, {90, 110, 0, 10}};
        for (int[] row : due) {
            ShadedBooks books = Scenes.two(60, 99);
            books.addTrader(0, 99);
            books.order(1, row[0], 1);
            books.order(0, row[1], 1);
            Check.is(row[2], books.bestSplit(0));
            Check.is(row[3], books.bestSplit(1));
            Check.is(0, books.bestSplit(2));
            books.set(0, 3);
            Check.is(row[3], books.bestSplit(1));
            Check.is(3, books.whole(3));
        }
    }

    private static void splitWithoutRange() {
        Twins.leave(NONE, Scenes::busy, books -> books.bestSplit(0));
        ShadedBooks books = Scenes.two(60, 30);
        books.addTrader(0, 60);
        Check.is(NONE, books.bestSplit(0));
        books.order(0, 49, 1);
        books.order(1, 50, 1);
        Check.is(NONE, books.bestSplit(2));
        books.order(0, 50, 1);
        Check.is(0, books.bestSplit(2));
    }

    private static void goneIn() {
        for (int life = 1; life <= 9; life++) {
            ShadedBooks books = Scenes.two(60, 30);
            books.set(1, life);
            books.order(0, 50, 2);
            books.order(1, 50, 1);
            Check.is(1, books.goneIn(1));
            for (int left = life; left >= 1; left--) {
                Check.is(left, books.goneIn(0));
                books.clear();
            }
            Check.refuses(NOT_THERE, books, () -> books.goneIn(0));
        }
        ShadedBooks books = Scenes.two(60, 30);
        books.set(1, 9);
        books.order(0, 50, 1);
        for (int round = 0; round < 6; round++) {
            books.clear();
        }
        int[] due = {1, 1, 1, 1, 1, 1, 1, 2, 3};
        for (int life = 1; life <= 9; life++) {
            books.set(1, life);
            Check.is(due[life - 1], books.goneIn(0));
        }
        books.order(1, 50, 1);
        Check.is(1, books.goneIn(0));
    }

    private static void goneInOfAll() {
        ShadedBooks books = Twins.born(Scenes::busy);
        int[] due = {3, 4, 4};
        for (int order = 3; order <= 5; order++) {
            Check.is(due[order - 3], books.goneIn(order));
        }
        ShadedBooks twenty = new ShadedBooks();
        twenty.addTrader(0, 60);
        twenty.set(1, 9);
        for (int order = 0; order < 20; order++) {
            twenty.bid(0, 1);
        }
        for (int order = 0; order < 20; order++) {
            Check.is(9, twenty.goneIn(order));
        }
    }

    private static void goneBeyond() {
        Twins.leave(3, Scenes::late, books -> books.goneIn(0));
        Twins.leave(1, Scenes::late, books -> books.goneIn(1));
        ShadedBooks books = Twins.born(Scenes::late);
        books.set(1, 9);
        Check.is(9, books.goneIn(0));
        Check.is(9999, books.whole(2));
    }

    // ---- promises 22 to 26

    private static void typeValue() {
        ends(OUT_OF_RANGE, Scenes::busy, 0, 127, (books, value) -> books.type(value));
        ShadedBooks books = new ShadedBooks();
        for (int value = 0; value <= 127; value++) {
            Check.is(value + 1, books.type(value));
        }
        Check.is(128, books.clearCommands());
        books.type(' ');
        Check.is(0, books.runCommands());
        books.type(0);
        Check.is(-11, books.runCommands());
    }

    private static void typeFull() {
        ShadedBooks books = new ShadedBooks();
        for (int length = 1; length <= 150; length++) {
            Check.is(length, books.type(' '));
        }
        Check.refuses(NOT_NOW, books, () -> books.type(' '));
        int[] values = {0, ' ', 127};
        for (int value : values) {
            Twins.refuse(NOT_NOW, Scenes::written, written -> written.type(value));
        }
    }

    private static void clearText() {
        ShadedBooks books = Twins.born(Scenes::written);
        Check.is(150, books.clearCommands());
        Check.is(0, books.whole(11));
        Check.is(0, books.clearCommands());
        Check.is(1, books.type(';'));
        Check.is(1, books.clearCommands());
        Check.is(0, books.undo());
    }

    private static void runFaults() {
        ShadedBooks books = new ShadedBooks();
        books.type(';');
        Check.is(-10, books.runCommands());
        books.clearCommands();
        CommandTests.type(books, " ;");
        Check.is(-11, books.runCommands());
        books.clearCommands();
        CommandTests.type(books, " ".repeat(149) + ";");
        Check.is(-159, books.runCommands());
        books.clearCommands();
        CommandTests.type(books, " ".repeat(145) + "clear");
        Check.is(-160, books.runCommands());
        books.clearCommands();
        Check.is(0, books.runCommands());
    }

    private static void undoLeft() {
        ShadedBooks books = Twins.born(Scenes::busy);
        int[] orders = {3, 2, 1, 4};
        for (int left = 3; left >= 0; left--) {
            Check.is(left, books.undo());
            Check.is(orders[3 - left], books.whole(1));
        }
        Check.is(0, books.whole(2));
        Check.refuses(NOT_NOW, books, books::undo);
    }

    /** The values are written out here, as the document tells them for an auction in which nothing is. */
    private static void digestOfNothing() {
        long[] values = {0, 0, 0, 0, 5, 3, 0, 0, 0, NONE, 0, 0, 0, NONE, NONE, NONE, 0, 0, 0, 100};
        Check.is(hash(values), new ShadedBooks().digest());
    }

    private static void digestWraps() {
        long[] values = {4, 4, 3, 1, 5, 4, 6, 5, 75, 47, 2, 0, 14, NONE, NONE, NONE, 0, 0, 45, 0,
            0, 60, 3, 5, 55, 1, 3, 2, 26, -94,
            0, 50, 0, 0, 50, 0, 0, 3, 9, -141,
            1, 30, 0, 0, 30, 0, 0, 2, 34, 94,
            1, 45, 3, 0, 45, 2, 3, 3, 6, 141,
            3, 3, 45, 1, 0, 0, 0, 4, 0, 40, 3, 1, 0, 0, 5, 3, 46, 2, 1, 1, 0,
            0, 2, 2, 0, 2, 1, 3, 3, 1, 3};
        Check.is(hash(values), Twins.born(Scenes::busy).digest());
    }

    private static long hash(long[] values) {
        BigInteger h = BigInteger.valueOf(43616);
        for (long value : values) {
            h = h.multiply(BigInteger.valueOf(31)).add(BigInteger.valueOf(value));
        }
        Check.yes(h.bitLength() > 64, "the hash does not wrap");
        return h.longValue();
    }

    private static void digestParts() {
        ShadedBooks books = new ShadedBooks();
        long last = books.digest();
        for (int saves = 1; saves <= 4; saves++) {
            books.set(0, 5);
            Check.yes(books.digest() != last, "the number of saved states is not in the hash");
            last = books.digest();
        }
        books.set(0, 5);
        Check.is(last, books.digest());
        ShadedBooks one = Scenes.two(60, 30);
        one.order(0, 50, 1);
        one.order(1, 50, 2);
        long[] placed = {4, 2, 2, 0, 5, 3, 2, 0, 0, NONE, 0, 0, 0, 50, 50, 50, 1, 30, 30, 100,
            0, 60, 0, 0, 60, 1, 1, 0, 0, 0, 1, 30, 0, 0, 30, 1, 2, 0, 0, 0,
            0, 0, 50, 1, 0, 0, 1, 1, 1, 50, 2, 0, 0, 1};
        Check.is(hash(placed), one.digest());
        one.clear();
        long[] traded = {4, 2, 1, 1, 5, 3, 2, 1, 30, 50, 1, 0, 0, NONE, NONE, NONE, 0, 0, 0, 100,
            0, 60, 0, 0, 60, 0, 0, 1, 10, -50, 1, 30, 0, 0, 30, 1, 1, 1, 20, 50,
            1, 1, 50, 1, 0, 0, 0, 0, 1, 1, 0, 1};
        Check.is(hash(traded), one.digest());
    }
}
