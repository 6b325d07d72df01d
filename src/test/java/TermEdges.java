/** Terms: for each sentence on traders, orders and clearing that names an edge, a test of its own. */
final class TermEdges {
    private static final Class<IndexOutOfBoundsException> NOT_THERE = IndexOutOfBoundsException.class;
    private static final Class<IllegalStateException> NOT_NOW = IllegalStateException.class;
    private static final int NONE = ShadedBooks.NONE;

    private TermEdges() {
    }

    static void run() {
        runTraders();
        runOrders();
        runClearing();
        runSums();
    }

    private static void runTraders() {
        Check.test("edge: at most 8 traders, numbered from 0", TermEdges::eightTraders);
        Check.test("edge: at first a trader is honest, with the amount 0", TermEdges::honestAtFirst);
        Check.test("edge: honest, the shade is 0", TermEdges::honest);
        Check.test("edge: flat, the shade is the amount", TermEdges::flat);
        Check.test("edge: part, value * amount / 100 is rounded down", TermEdges::part);
        Check.test("edge: the bid is at least 1", TermEdges::leastBid);
        Check.test("edge: the bid is at most 120", TermEdges::greatestBid);
        Check.test("edge: the amount increases up to 50", TermEdges::learnsUpTo50);
        Check.test("edge: the amount decreases down to 0", TermEdges::learnsDownTo0);
        Check.test("edge: a trader without orders learns nothing", TermEdges::learnsNothing);
        Check.test("edge: all of their units, none of their units", TermEdges::learnsByAllOrNone);
        Check.test("edge: one learns before orders expire", TermEdges::learnsBeforeExpiry);
        Check.test("edge: only the learning ones learn", TermEdges::othersDoNotLearn);
    }

    private static void runOrders() {
        Check.test("edge: at most 20 orders in the book", TermEdges::twentyOrders);
        Check.test("edge: a full book is emptied order by order", TermEdges::fullBookEmptied);
        Check.test("edge: numbers rise from 0, also if others are gone", TermEdges::numbersRise);
        Check.test("edge: rounds are numbered from 0", TermEdges::roundsFrom0);
        Check.test("edge: equal prices, the lower number is ahead", TermEdges::equalPrices);
    }

    private static void runClearing() {
        Check.test("edge: the demand at a price has the orders of that very price", TermEdges::demand);
        Check.test("edge: the supply at a price has the orders of that very price", TermEdges::supply);
        Check.test("edge: the volume is the lesser of both", TermEdges::volume);
        Check.test("edge: there is no range if the volume is 0", TermEdges::noRange);
        Check.test("edge: the narrowest range and the widest one", TermEdges::ranges);
        Check.test("edge: the settings at first", TermEdges::settingsAtFirst);
        Check.test("edge: the price is rounded down", TermEdges::priceRoundsDown);
        Check.test("edge: what is traded ends with the volume", TermEdges::upToTheVolume);
        Check.test("edge: orders of just the price are traded", TermEdges::justThePrice);
        Check.test("edge: units between the same two orders are one trade", TermEdges::oneTrade);
        Check.test("edge: an order that is traded with several others", TermEdges::severalTrades);
        Check.test("edge: the most trades of a round", TermEdges::mostTrades);
        Check.test("edge: orders without units left are gone, those with one stay", TermEdges::oneUnitLeft);
        Check.test("edge: orders expire after the life, from 1 to 9", TermEdges::lives);
        Check.test("edge: orders expire the life, or more, of rounds later", TermEdges::orMore);
        Check.test("edge: the life as it is then", TermEdges::lifeAsItIsThen);
        Check.test("edge: what is traded does not expire", TermEdges::tradedIsNotExpired);
        Check.test("edge: a round without a range counts", TermEdges::emptyRound);
    }

    private static void runSums() {
        Check.test("edge: surplus and gains below 0", TermEdges::belowZero);
        Check.test("edge: greatest surplus, as long as that is above 0", TermEdges::greatestAboveZero);
        Check.test("edge: the greatest surplus that there is", TermEdges::greatestOfAll);
    }

    // ---- traders

    private static void eightTraders() {
        ShadedBooks books = new ShadedBooks();
        for (int trader = 0; trader < 8; trader++) {
            Check.refuses(NOT_THERE, books, () -> books.trader(books.whole(0), 0));
            Check.is(trader, books.addTrader(trader % 2, 90 + trader));
            Check.is(90 + trader, books.trader(trader, 1));
        }
        Check.refuses(NOT_NOW, books, () -> books.addTrader(0, 1));
        Check.is(90, books.trader(0, 1));
        Check.is(8, books.whole(0));
        books.undo();
        Check.is(7, books.addTrader(1, 1));
    }

    private static void honestAtFirst() {
        ShadedBooks books = Scenes.two(1, 99);
        for (int trader = 0; trader < 2; trader++) {
            Check.is(0, books.trader(trader, 2));
            Check.is(0, books.trader(trader, 3));
            Check.is(trader == 0 ? 1 : 99, books.trader(trader, 4));
        }
        books.setShade(1, 3, 9);
        books.undo();
        books.undo();
        books.addTrader(1, 98);
        TraderAndOrderTests.traderIs(books, 1, 1, 98, 0, 0, 98, 0, 0, 0, 0, 0);
    }

    private static void honest() {
        ShadedBooks books = Scenes.two(99, 1);
        Check.is(99, books.setShade(0, 0, 50));
        Check.is(1, books.setShade(1, 0, 50));
        Check.is(50, books.trader(1, 3));
    }

    private static void flat() {
        ShadedBooks books = Scenes.two(99, 1);
        int[] amounts = {0, 1, 49, 50};
        for (int amount : amounts) {
            for (int kind = 1; kind <= 3; kind += 2) {
                Check.is(99 - amount, books.setShade(0, kind, amount));
                Check.is(1 + amount, books.setShade(1, kind, amount));
            }
        }
    }

    private static void part() {
        ShadedBooks books = Scenes.two(50, 50);
        int[][] due = {{99, 0, 99, 99}, {99, 1, 99, 99}, {99, 2, 98, 100}, {50, 2, 49, 51}, {49, 2, 49, 49}, {50, 1, 50, 50},
            {1, 50, 1, 1}, {2, 50, 1, 3}, {3, 50, 2, 4}, {79, 50, 40, 118}};
        for (int[] row : due) {
            books.setValue(0, row[0]);
            books.setValue(1, row[0]);
            Check.is(row[2], books.setShade(0, 2, row[1]));
            Check.is(row[3], books.setShade(1, 2, row[1]));
        }
    }

    private static void leastBid() {
        ShadedBooks books = Scenes.two(50, 50);
        int[][] due = {{52, 50, 2}, {51, 50, 1}, {50, 50, 1}, {49, 50, 1}, {1, 50, 1}, {1, 0, 1}, {1, 1, 1}, {2, 1, 1}, {3, 1, 2}};
        for (int[] row : due) {
            books.setValue(0, row[0]);
            Check.is(row[2], books.setShade(0, 1, row[1]));
            Check.is(row[2], books.setShade(0, 3, row[1]));
            Check.is(row[2], books.trader(0, 4));
        }
        books.setValue(0, 5);
        books.setShade(0, 1, 50);
        books.bid(0, 1);
        Check.is(1, books.orderOf(0, 1));
    }

    private static void greatestBid() {
        ShadedBooks books = Scenes.two(50, 50);
        int[][] due = {{1, 69, 50, 119}, {1, 70, 50, 120}, {1, 71, 50, 120}, {3, 99, 20, 119}, {3, 99, 21, 120}, {3, 99, 22, 120},
            {1, 99, 50, 120}, {2, 99, 21, 119}, {2, 99, 22, 120}, {2, 99, 23, 120}, {2, 80, 50, 120}, {2, 81, 50, 120}};
        for (int[] row : due) {
            books.setValue(1, row[1]);
            Check.is(row[3], books.setShade(1, row[0], row[2]));
            Check.is(row[3], books.trader(1, 4));
        }
        books.setShade(1, 1, 50);
        books.bid(1, 1);
        Check.is(120, books.orderOf(0, 1));
    }

    private static void learnsUpTo50() {
        ShadedBooks books = Scenes.two(99, 1);
        books.setShade(0, 3, 48);
        books.setShade(1, 3, 49);
        int[][] due = {{49, 50}, {50, 50}, {50, 50}};
        for (int[] row : due) {
            books.order(0, 60, 1);
            books.order(1, 60, 1);
            books.clear();
            Check.is(row[0], books.trader(0, 3));
            Check.is(row[1], books.trader(1, 3));
            Check.is(99 - row[0], books.trader(0, 4));
            Check.is(1 + row[1], books.trader(1, 4));
        }
    }

    private static void learnsDownTo0() {
        ShadedBooks books = Scenes.two(99, 1);
        books.set(1, 9);
        books.setShade(0, 3, 2);
        books.setShade(1, 3, 1);
        books.order(0, 10, 1);
        books.order(1, 90, 1);
        int[][] due = {{1, 0}, {0, 0}, {0, 0}};
        for (int[] row : due) {
            books.clear();
            Check.is(row[0], books.trader(0, 3));
            Check.is(row[1], books.trader(1, 3));
            Check.is(99 - row[0], books.trader(0, 4));
            Check.is(1 + row[1], books.trader(1, 4));
        }
    }

    private static void learnsNothing() {
        ShadedBooks books = Scenes.two(99, 1);
        books.setShade(0, 3, 7);
        books.clear();
        Check.is(7, books.trader(0, 3));
        books.order(0, 10, 1);
        books.cancel(0);
        books.clear();
        Check.is(7, books.trader(0, 3));
        books.order(0, 10, 1);
        books.order(1, 10, 1);
        books.clear();
        Check.is(8, books.trader(0, 3));
        books.order(1, 10, 1);
        books.clear();
        Check.is(8, books.trader(0, 3));
    }

    private static void learnsByAllOrNone() {
        ShadedBooks books = Scenes.two(99, 1);
        books.setShade(0, 3, 7);
        books.setShade(1, 3, 7);
        books.order(0, 60, 9);
        books.order(0, 60, 9);
        books.order(1, 50, 9);
        books.order(1, 50, 8);
        books.clear();
        Check.is(7, books.trader(0, 3));
        Check.is(8, books.trader(1, 3));
        books.order(1, 50, 1);
        books.clear();
        Check.is(8, books.trader(0, 3));
        Check.is(9, books.trader(1, 3));
        books.order(0, 60, 1);
        books.order(1, 50, 9);
        books.order(1, 55, 9);
        books.clear();
        Check.is(9, books.trader(0, 3));
        Check.is(9, books.trader(1, 3));
        books.clear();
        Check.is(9, books.trader(0, 3));
        Check.is(8, books.trader(1, 3));
    }

    private static void learnsBeforeExpiry() {
        ShadedBooks books = Scenes.two(99, 1);
        books.set(1, 1);
        books.setShade(0, 3, 7);
        books.order(0, 10, 1);
        books.clear();
        Check.is(6, books.trader(0, 3));
        Check.is(0, books.whole(1));
        books.clear();
        Check.is(6, books.trader(0, 3));
    }

    private static void othersDoNotLearn() {
        for (int kind = 0; kind <= 2; kind++) {
            ShadedBooks books = Scenes.two(99, 1);
            books.setShade(0, kind, 7);
            books.order(0, 10, 1);
            books.clear();
            Check.is(7, books.trader(0, 3));
            books.order(1, 10, 1);
            books.clear();
            Check.is(7, books.trader(0, 3));
            Check.is(kind, books.trader(0, 2));
        }
    }

    // ---- orders

    private static void twentyOrders() {
        ShadedBooks books = Twins.born(Scenes::nearlyFull);
        Check.is(19, books.whole(1));
        Check.is(19, books.bid(0, 1));
        Check.refuses(NOT_NOW, books, () -> books.bid(0, 1));
        Check.refuses(NOT_NOW, books, () -> books.order(1, 50, 1));
        books.cancel(0);
        Check.is(20, books.order(1, 50, 1));
        Check.refuses(NOT_NOW, books, () -> books.order(1, 50, 1));
        books.clear();
        int left = books.whole(1);
        Check.yes(left < 20, "clearing frees no place");
        for (int placed = left; placed < 20; placed++) {
            books.order(0, 1, 1);
        }
        Check.refuses(NOT_NOW, books, () -> books.order(0, 1, 1));
    }

    /** Trader 0 buys, trader 1 sells, in turn; at equal prices, or each one better than those before it. */
    private static void fullBookEmptied() {
        for (int way = 0; way < 40; way++) {
            int better = way % 2;
            ShadedBooks books = Scenes.two(60, 30);
            int[] left = new int[20];
            for (int order = 0; order < 20; order++) {
                left[order] = 1 + order % 9;
                books.order(order % 2, order % 2 == 0 ? 50 + better * order : 50 - better * order, left[order]);
            }
            bookHolds(books, left, better);
            for (int step = 0; step < 20; step++) {
                int order = (way / 2 + 7 * step) % 20;
                Check.is(left[order], books.cancel(order));
                left[order] = 0;
                bookHolds(books, left, better);
            }
            Check.is(0, books.clear());
            Check.is(0, books.whole(10));
            Check.is(20, books.order(0, 50, 2));
            Check.is(2, books.trader(0, 6));
            Check.is(0, books.orderOf(20, 4));
            Check.is(0, books.now(3));
            Check.is(0, books.now(5));
        }
    }

    private static void bookHolds(ShadedBooks books, int[] left, int better) {
        int[] orders = new int[2];
        int[] units = new int[2];
        for (int order = 0; order < left.length; order++) {
            orders[order % 2] += left[order] > 0 ? 1 : 0;
            units[order % 2] += left[order];
        }
        int volume = Math.min(units[0], units[1]);
        Check.is(orders[0] + orders[1], books.whole(1));
        for (int side = 0; side < 2; side++) {
            Check.is(units[side], books.at(50, side));
            Check.is(orders[side], books.trader(side, 5));
            Check.is(units[side], books.trader(side, 6));
        }
        Check.is(volume, books.now(3));
        Check.is(30 * volume, books.now(4));
        Check.is(30 * volume, books.now(5));
        queuesHold(books, left, better, volume);
    }

    private static void queuesHold(ShadedBooks books, int[] left, int better, int volume) {
        int[] places = new int[2];
        int[] open = {volume, volume};
        for (int index = 0; index < left.length; index++) {
            int order = better == 1 ? left.length - 1 - index : index;
            int side = order % 2;
            if (left[order] > 0) {
                Check.is(places[side], books.orderOf(order, 4));
                Check.is(Math.min(open[side], left[order]), books.filled(order));
                places[side]++;
                open[side] -= Math.min(open[side], left[order]);
            }
        }
    }

    private static void numbersRise() {
        ShadedBooks books = Scenes.two(60, 30);
        books.set(1, 1);
        Check.is(0, books.bid(0, 1));
        Check.is(1, books.bid(0, 1));
        books.cancel(1);
        Check.is(2, books.order(1, 30, 1));
        books.clear();
        Check.is(3, books.order(0, 9, 1));
        books.clear();
        Check.is(0, books.whole(1));
        Check.is(4, books.bid(1, 1));
        Check.is(5, books.whole(5));
    }

    private static void roundsFrom0() {
        ShadedBooks books = Scenes.two(60, 30);
        Check.is(0, books.whole(2));
        books.bid(0, 1);
        books.clear();
        Check.is(1, books.whole(2));
        books.bid(0, 1);
        Check.is(0, books.orderOf(0, 3));
        Check.is(1, books.orderOf(1, 3));
    }

    private static void equalPrices() {
        ShadedBooks books = Scenes.two(60, 30);
        int[] prices = {50, 51, 50, 49, 120, 1};
        int[] buying = {2, 1, 3, 4, 0, 5};
        int[] selling = {2, 4, 3, 1, 5, 0};
        for (int price : prices) {
            books.order(0, price, 1);
            books.order(1, price, 1);
        }
        for (int index = 0; index < prices.length; index++) {
            Check.is(buying[index], books.orderOf(2 * index, 4));
            Check.is(selling[index], books.orderOf(2 * index + 1, 4));
        }
    }

    // ---- clearing

    private static void demand() {
        ShadedBooks books = Scenes.two(60, 30);
        int[] empty = {1, 60, 120};
        for (int price : empty) {
            Check.is(0, books.at(price, 0));
        }
        books.order(0, 50, 3);
        int[][] due = {{1, 3}, {49, 3}, {50, 3}, {51, 0}, {120, 0}};
        for (int[] row : due) {
            Check.is(row[1], books.at(row[0], 0));
        }
        books.order(0, 120, 4);
        Check.is(4, books.at(120, 0));
        Check.is(4, books.at(51, 0));
        Check.is(7, books.at(50, 0));
        books.order(0, 1, 2);
        Check.is(9, books.at(1, 0));
        Check.is(7, books.at(2, 0));
    }

    private static void supply() {
        ShadedBooks books = Scenes.two(60, 30);
        int[] empty = {1, 60, 120};
        for (int price : empty) {
            Check.is(0, books.at(price, 1));
        }
        books.order(1, 50, 3);
        int[][] due = {{1, 0}, {49, 0}, {50, 3}, {51, 3}, {120, 3}};
        for (int[] row : due) {
            Check.is(row[1], books.at(row[0], 1));
        }
        books.order(1, 1, 4);
        Check.is(4, books.at(1, 1));
        Check.is(4, books.at(49, 1));
        Check.is(7, books.at(50, 1));
        books.order(1, 120, 2);
        Check.is(9, books.at(120, 1));
        Check.is(7, books.at(119, 1));
    }

    private static void volume() {
        ShadedBooks books = Scenes.two(60, 30);
        books.order(0, 50, 3);
        Check.is(0, books.at(50, 2));
        books.order(1, 50, 2);
        Check.is(2, books.at(50, 2));
        books.order(1, 50, 1);
        Check.is(3, books.at(50, 2));
        books.order(1, 50, 1);
        Check.is(3, books.at(50, 2));
        Check.is(0, books.at(49, 2));
        Check.is(0, books.at(51, 2));
    }

    private static void noRange() {
        ShadedBooks books = Scenes.two(60, 30);
        Scenes.nowIs(books, NONE, NONE, NONE, 0, 0, 0, 100);
        books.order(0, 49, 1);
        Scenes.nowIs(books, NONE, NONE, NONE, 0, 0, 0, 100);
        books.order(1, 50, 1);
        Scenes.nowIs(books, NONE, NONE, NONE, 0, 0, 30, 0);
        books.cancel(0);
        Scenes.nowIs(books, NONE, NONE, NONE, 0, 0, 0, 100);
        books.order(0, 50, 1);
        Scenes.nowIs(books, 50, 50, 50, 1, 30, 30, 100);
        int[][] apart = {{1, 2}, {1, 120}, {119, 120}, {118, 119}, {60, 61}};
        for (int[] pair : apart) {
            ShadedBooks none = Scenes.two(60, 30);
            none.order(0, pair[0], 9);
            none.order(1, pair[1], 9);
            Scenes.nowIs(none, NONE, NONE, NONE, 0, 0, 270, 0);
            Check.is(0, none.clear());
            Check.is(NONE, none.whole(8));
        }
    }

    private static void ranges() {
        int[][] prices = {{1, 1}, {120, 120}, {120, 1}, {120, 119}, {2, 1}, {60, 60}};
        for (int[] pair : prices) {
            ShadedBooks books = Scenes.two(60, 30);
            books.order(0, pair[0], 1);
            books.order(1, pair[1], 1);
            Scenes.nowIs(books, pair[1], pair[0], pair[1] + (pair[0] - pair[1]) / 2, 1);
        }
        ShadedBooks books = Scenes.two(60, 30);
        books.order(0, 60, 1);
        books.order(0, 50, 1);
        books.order(1, 40, 1);
        books.order(1, 50, 1);
        Scenes.nowIs(books, 50, 50, 50, 2);
        books.order(1, 40, 1);
        Scenes.nowIs(books, 40, 50, 45, 2);
    }

    private static void settingsAtFirst() {
        ShadedBooks books = new ShadedBooks();
        Check.is(5, books.whole(3));
        Check.is(3, books.whole(4));
    }

    private static void priceRoundsDown() {
        int[][] due = {{40, 40, 40, 40, 40, 40, 40, 40, 40, 40, 41}, {40, 40, 41, 42, 43, 44, 45, 46, 47, 48, 49}};
        for (int[] row : due) {
            ShadedBooks books = Scenes.two(60, 30);
            books.order(0, row[10], 1);
            books.order(1, 40, 1);
            for (int split = 0; split <= 10; split++) {
                books.set(0, split);
                Check.is(row[split], books.now(2));
                books.clear();
                Check.is(row[split], books.whole(8));
                books.undo();
            }
        }
    }

    private static void upToTheVolume() {
        ShadedBooks books = Scenes.two(60, 30);
        int[] units = {3, 3, 3};
        for (int each : units) {
            books.order(0, 50, each);
        }
        books.order(1, 50, 4);
        int[] due = {3, 1, 0, 4};
        for (int order = 0; order < due.length; order++) {
            Check.is(due[order], books.filled(order));
        }
        Check.is(4, books.clear());
        Check.is(2, books.orderOf(1, 2));
        Check.is(3, books.orderOf(2, 2));
        books.order(1, 50, 5);
        books.order(1, 50, 1);
        Check.is(5, books.clear());
        Check.is(1, books.orderOf(5, 2));
    }

    private static void justThePrice() {
        ShadedBooks books = Scenes.two(60, 30);
        books.set(0, 0);
        books.order(0, 50, 1);
        books.order(0, 39, 1);
        books.order(1, 40, 1);
        books.order(1, 51, 1);
        Scenes.nowIs(books, 40, 50, 40, 1);
        Check.is(1, books.filled(2));
        Check.is(0, books.filled(1));
        books.set(0, 10);
        Check.is(50, books.now(2));
        Check.is(1, books.filled(0));
        Check.is(0, books.filled(3));
        Check.is(1, books.clear());
        TraderAndOrderTests.tradeIs(books, 0, 0, 2, 1, 0, 1);
        TraderAndOrderTests.tradeIs(books, 1, NONE);
    }

    private static void oneTrade() {
        ShadedBooks books = Scenes.two(60, 30);
        books.order(0, 50, 9);
        books.order(1, 50, 9);
        books.clear();
        Check.is(1, books.whole(9));
        TraderAndOrderTests.tradeIs(books, 0, 0, 1, 9, 0, 1);
        books.order(0, 50, 4);
        books.order(0, 50, 5);
        books.order(1, 50, 9);
        books.clear();
        Check.is(2, books.whole(9));
        TraderAndOrderTests.tradeIs(books, 0, 2, 4, 4, 0, 1);
        TraderAndOrderTests.tradeIs(books, 1, 3, 4, 5, 0, 1);
        TraderAndOrderTests.tradeIs(books, 2, NONE);
    }

    private static void severalTrades() {
        ShadedBooks books = Scenes.two(60, 30);
        int[] many = {2, 3, 4};
        int[][] due = {{0, 2, 2}, {0, 3, 3}, {0, 4, 1}, {1, 4, 3}};
        for (int side = 0; side < 2; side++) {
            books.order(side, 50, 6);
            books.order(side, 50, 3);
            for (int units : many) {
                books.order(1 - side, 50, units);
            }
            Check.is(9, books.clear());
            for (int index = 0; index < due.length; index++) {
                Check.is(due[index][0] + 5 * side, books.trade(index, side));
                Check.is(due[index][1] + 5 * side, books.trade(index, 1 - side));
                Check.is(due[index][2], books.trade(index, 2));
            }
            Check.is(4, books.whole(9));
            Check.is(0, books.whole(1));
        }
    }

    private static void mostTrades() {
        ShadedBooks books = Scenes.two(60, 30);
        for (int order = 0; order < 10; order++) {
            books.order(0, 50, order == 0 ? 1 : 2);
        }
        for (int order = 0; order < 10; order++) {
            books.order(1, 50, order == 9 ? 1 : 2);
        }
        Check.is(19, books.clear());
        Check.is(19, books.whole(9));
        for (int index = 0; index < 19; index++) {
            TraderAndOrderTests.tradeIs(books, index, (index + 1) / 2, 10 + index / 2, 1, 0, 1);
        }
        TraderAndOrderTests.tradeIs(books, 19, NONE, NONE, NONE, NONE, NONE);
        Check.is(0, books.whole(1));
    }

    private static void oneUnitLeft() {
        ShadedBooks books = Scenes.two(60, 30);
        books.order(0, 50, 9);
        books.order(0, 50, 1);
        books.order(1, 50, 9);
        Check.is(9, books.clear());
        Check.is(1, books.whole(1));
        Check.refuses(NOT_THERE, books, () -> books.orderOf(0, 0));
        Check.refuses(NOT_THERE, books, () -> books.orderOf(2, 0));
        books.order(1, 50, 2);
        books.clear();
        Check.refuses(NOT_THERE, books, () -> books.orderOf(1, 0));
        Check.is(1, books.orderOf(3, 2));
        Check.is(1, books.trader(1, 6));
    }

    private static void lives() {
        for (int life = 1; life <= 9; life++) {
            ShadedBooks books = Scenes.two(60, 30);
            books.set(1, life);
            books.clear();
            books.order(0, 50, 1);
            for (int rounds = 1; rounds < life; rounds++) {
                books.clear();
                Check.is(1, books.whole(1));
                Check.is(0, books.whole(10));
            }
            books.clear();
            Check.is(0, books.whole(1));
            Check.is(1, books.whole(10));
            books.clear();
            Check.is(1, books.whole(10));
        }
    }

    private static void orMore() {
        ShadedBooks books = Scenes.two(60, 30);
        books.set(1, 9);
        for (int round = 0; round < 8; round++) {
            books.order(0, 50, 1);
            books.clear();
        }
        books.order(0, 50, 1);
        books.set(1, 2);
        Check.is(9, books.whole(1));
        books.clear();
        Check.is(1, books.whole(1));
        Check.is(8, books.whole(10));
        Check.is(8, books.orderOf(8, 3));
    }

    private static void lifeAsItIsThen() {
        ShadedBooks books = Scenes.two(60, 30);
        books.order(0, 50, 1);
        books.clear();
        books.clear();
        books.set(1, 9);
        for (int round = 2; round < 8; round++) {
            books.clear();
            Check.is(1, books.whole(1));
        }
        books.set(1, 8);
        Check.is(1, books.whole(1));
        books.clear();
        Check.is(0, books.whole(1));
        Check.is(1, books.whole(10));
    }

    private static void tradedIsNotExpired() {
        ShadedBooks books = Scenes.two(60, 30);
        books.set(1, 1);
        books.order(0, 50, 2);
        books.order(1, 50, 2);
        books.clear();
        Check.is(0, books.whole(10));
        books.order(0, 50, 2);
        books.order(1, 50, 1);
        books.clear();
        Check.is(1, books.whole(10));
        Check.is(0, books.whole(1));
    }

    private static void emptyRound() {
        ShadedBooks books = new ShadedBooks();
        Check.is(0, books.clear());
        TraderAndOrderTests.wholeIs(books, 0, 0, 1, 5, 3, 0, 0, 0, NONE, 0, 0, 0);
        books.addTrader(0, 60);
        books.addTrader(1, 30);
        books.order(0, 50, 1);
        books.order(1, 50, 1);
        books.clear();
        TraderAndOrderTests.wholeIs(books, 2, 0, 2, 5, 3, 2, 1, 30, 50, 1, 0, 0);
        Check.is(0, books.clear());
        TraderAndOrderTests.wholeIs(books, 2, 0, 3, 5, 3, 2, 1, 30, NONE, 0, 0, 0);
        TraderAndOrderTests.tradeIs(books, 0, NONE, NONE, NONE, NONE, NONE);
        TraderAndOrderTests.traderIs(books, 0, 0, 60, 0, 0, 60, 0, 0, 1, 10, -50);
    }

    // ---- surplus

    private static void belowZero() {
        ShadedBooks books = Scenes.two(1, 99);
        books.order(0, 120, 9);
        books.order(1, 1, 9);
        books.set(0, 10);
        Scenes.nowIs(books, 1, 120, 120, 9, -882, 0, 0);
        books.clear();
        Check.is(-882, books.whole(7));
        Check.is(9 * (1 - 120), books.trader(0, 8));
        Check.is(9 * (120 - 99), books.trader(1, 8));
        Check.is(-1080, books.trader(0, 9));
        Check.is(1080, books.trader(1, 9));
        books.order(0, 120, 1);
        books.order(1, 1, 1);
        books.set(0, 0);
        books.clear();
        Check.is(-1071 + 0, books.trader(0, 8));
        Check.is(189 - 98, books.trader(1, 8));
        Check.is(-980, books.whole(7));
    }

    private static void greatestAboveZero() {
        int[][] due = {{50, 51, 0}, {50, 50, 0}, {51, 50, 3}, {99, 1, 294}, {1, 99, 0}, {1, 1, 0}, {99, 99, 0}};
        for (int[] row : due) {
            ShadedBooks books = Scenes.two(row[0], row[1]);
            books.order(0, 10, 3);
            books.order(1, 90, 4);
            Check.is(row[2], books.now(5));
        }
        ShadedBooks books = Scenes.two(60, 30);
        books.addTrader(0, 40);
        books.addTrader(1, 40);
        books.order(0, 10, 2);
        books.order(2, 10, 9);
        books.order(1, 90, 1);
        books.order(3, 90, 9);
        Check.is(30 + 20, books.now(5));
        books.setValue(2, 41);
        Check.is(30 + 20 + 8, books.now(5));
        books.setValue(2, 39);
        Check.is(30 + 20, books.now(5));
    }

    private static void greatestOfAll() {
        ShadedBooks books = Scenes.two(99, 1);
        Check.is(0, books.now(5));
        for (int order = 0; order < 10; order++) {
            books.order(0, 120, 9);
            books.order(1, 1, 9);
        }
        Scenes.nowIs(books, 1, 120, 60, 90, 8820, 8820, 100);
        Check.is(90, books.clear());
        Check.is(90, books.trader(0, 7));
        Check.is(90 * 39, books.trader(0, 8));
        Check.is(-5400, books.trader(0, 9));
        Check.is(90 * 59, books.trader(1, 8));
        Check.is(5400, books.trader(1, 9));
    }
}
