/** A double auction of traders who shade what they bid; its promises are numbered in shared/DOC.md. */
public final class ShadedBooks {
    public static final int NONE = -10000;

    private static final int BUYS = 0;
    private static final int SELLS = 1;
    private static final int MAX_VALUE = 99;
    private static final int MAX_AMOUNT = 50;
    private static final int MAX_PRICE = 120;
    private static final int MAX_UNITS = 9;
    private static final int MAX_SPLIT = 10;
    private static final int MAX_LIFE = 9;
    private static final int LAST_ROUND = 9999;
    private static final int MAX_TRADERS = 8;
    private static final int MAX_ORDERS = 20;
    private static final int MAX_SAVED = 4;
    private static final int MAX_TEXT = 150;

    private static final int HONEST = 0;
    private static final int FLAT = 1;
    private static final int PART = 2;
    private static final int LEARNING = 3;

    private static final int TRADER_VALUES = 10;
    private static final int ORDER_VALUES = 5;
    private static final int TRADE_VALUES = 5;
    private static final int PRICE_VALUES = 3;
    private static final int NOW_VALUES = 7;
    private static final int WHOLE_VALUES = 12;

    private static final int FINE = 0;
    private static final int NOT_THERE = 1;
    private static final int OUT_OF_RANGE = 2;
    private static final int NOT_NOW = 3;

    private final Auction auction = new Auction();
    // What-if questions are played through here, so that the auction itself stays as it is.
    private final Auction trial = new Auction();
    private final Clearing clearing = new Clearing();
    private final UndoStack saved = new UndoStack();
    private final CommandText commands = new CommandText();

    public ShadedBooks() {
    }

    // ---- traders and orders

    public int addTrader(int side, int value) throws IllegalArgumentException, IllegalStateException {
        refuse(auction.faultOfJoin(side, value));
        saved.push(auction);
        return auction.traders.join(side, value);
    }

    public int setValue(int trader, int value) throws IndexOutOfBoundsException, IllegalArgumentException {
        refuse(auction.faultOfValue(trader, value));
        saved.push(auction);
        int previous = auction.traders.value.get(trader);
        auction.traders.value.put(trader, value);
        return previous;
    }

    public int setShade(int trader, int kind, int amount) throws IndexOutOfBoundsException, IllegalArgumentException {
        refuse(auction.faultOfShade(trader, kind, amount));
        saved.push(auction);
        auction.traders.shadeBy(trader, kind, amount);
        return auction.traders.bidOf(trader);
    }

    public int set(int what, int value) throws IllegalArgumentException {
        refuse(auction.faultOfSetting(what, value));
        saved.push(auction);
        return auction.change(what, value);
    }

    public int bid(int trader, int units) throws IndexOutOfBoundsException, IllegalArgumentException, IllegalStateException {
        refuse(auction.faultOfBid(trader, units));
        saved.push(auction);
        return auction.place(trader, auction.traders.bidOf(trader), units);
    }

    public int order(int trader, int price, int units) throws IndexOutOfBoundsException, IllegalArgumentException, IllegalStateException {
        refuse(auction.faultOfOrder(trader, price, units));
        saved.push(auction);
        return auction.place(trader, price, units);
    }

    public int cancel(int order) throws IndexOutOfBoundsException {
        refuse(auction.orders.faultOfNumber(order));
        saved.push(auction);
        return auction.orders.withdraw(order);
    }

    public int clear() throws IllegalStateException {
        refuse(auction.faultOfRound());
        saved.push(auction);
        return auction.endRound(clearing);
    }

    // ---- values

    public int trader(int trader, int what) throws IndexOutOfBoundsException, IllegalArgumentException {
        refuse(auction.traders.faultOfNumber(trader));
        refuse(faultOfWhat(what, TRADER_VALUES));
        return auction.traderValue(trader, what);
    }

    public int orderOf(int order, int what) throws IndexOutOfBoundsException, IllegalArgumentException {
        refuse(auction.orders.faultOfNumber(order));
        refuse(faultOfWhat(what, ORDER_VALUES));
        return auction.orders.valueOf(auction.orders.indexOf(order), what);
    }

    public int trade(int index, int what) throws IllegalArgumentException {
        refuse(index < 0 ? OUT_OF_RANGE : faultOfWhat(what, TRADE_VALUES));
        return auction.trades.valueOf(index, what);
    }

    public int at(int price, int what) throws IllegalArgumentException {
        refuse(faultOfPrice(price));
        refuse(faultOfWhat(what, PRICE_VALUES));
        return auction.orders.bookValue(price, what);
    }

    public int now(int what) throws IllegalArgumentException {
        refuse(faultOfWhat(what, NOW_VALUES));
        clearing.settle(auction);
        return clearing.valueOf(auction, what);
    }

    public int whole(int what) throws IllegalArgumentException {
        refuse(faultOfWhat(what, WHOLE_VALUES));
        return wholeValue(what);
    }

    // ---- what if, which changes nothing

    public int filled(int order) throws IndexOutOfBoundsException {
        refuse(auction.orders.faultOfNumber(order));
        clearing.settle(auction);
        return clearing.taken.get(auction.orders.indexOf(order));
    }

    public int reason(int order) throws IndexOutOfBoundsException {
        refuse(auction.orders.faultOfNumber(order));
        clearing.settle(auction);
        return clearing.reasonOf(auction.orders, auction.orders.indexOf(order));
    }

    public int gainWith(int trader, int price) throws IndexOutOfBoundsException, IllegalArgumentException {
        refuse(auction.traders.faultOfNumber(trader));
        refuse(faultOfPrice(price));
        if (auction.orders.isFull()) {
            return NONE;
        }
        trial.copyFrom(auction);
        trial.place(trader, price, 1);
        clearing.settle(trial);
        return clearing.gainOf(trial, trader, clearing.price);
    }

    public int bestShade(int trader) throws IndexOutOfBoundsException {
        refuse(auction.traders.faultOfNumber(trader));
        if (auction.orders.isFull()) {
            return NONE;
        }
        trial.copyFrom(auction);
        trial.place(trader, 1, 1);
        return bestShadeOfLastOrder(trader);
    }

    public int bestSplit(int trader) throws IndexOutOfBoundsException {
        refuse(auction.traders.faultOfNumber(trader));
        clearing.settle(auction);
        if (clearing.volume == 0) {
            return NONE;
        }
        int best = 0;
        int most = clearing.gainOf(auction, trader, clearing.priceWith(0));
        for (int split = 1; split <= MAX_SPLIT; split++) {
            int gain = clearing.gainOf(auction, trader, clearing.priceWith(split));
            if (gain > most) {
                most = gain;
                best = split;
            }
        }
        return best;
    }

    public int goneIn(int order) throws IndexOutOfBoundsException {
        refuse(auction.orders.faultOfNumber(order));
        trial.copyFrom(auction);
        // No order outlives the longest life, so no more rounds than that are needed.
        for (int rounds = 1; rounds < MAX_LIFE; rounds++) {
            trial.endRound(clearing);
            if (trial.orders.indexOf(order) < 0) {
                return rounds;
            }
        }
        return MAX_LIFE;
    }

    // ---- command text, undo and checksum

    public int type(int value) throws IllegalArgumentException, IllegalStateException {
        refuse(commands.faultOfByte(value));
        return commands.append(value);
    }

    public int clearCommands() {
        return commands.empty();
    }

    public int runCommands() {
        int fault = commands.findFault();
        if (fault >= 0) {
            return -10 - fault;
        }
        saved.push(auction);
        commands.rewind();
        for (int done = 0; done < MAX_TEXT; done++) {
            if (!commands.readCommand() || faultOfCommand() != FINE) {
                return done;
            }
            carryOutCommand();
        }
        return MAX_TEXT;
    }

    public int undo() throws IllegalStateException {
        refuse(saved.count == 0 ? NOT_NOW : FINE);
        saved.pop(auction);
        return saved.count;
    }

    public long digest() {
        long hash = mix(43616L, saved.count);
        for (int what = 0; what < WHOLE_VALUES; what++) {
            hash = mix(hash, wholeValue(what));
        }
        clearing.settle(auction);
        for (int what = 0; what < NOW_VALUES; what++) {
            hash = mix(hash, clearing.valueOf(auction, what));
        }
        return mixTrades(mixOrders(mixTraders(hash)));
    }

    // ---- parts of the digest

    private static long mix(long hash, long value) {
        return 31L * hash + value;
    }

    private long mixTraders(long before) {
        long hash = before;
        for (int trader = 0; trader < auction.traders.count; trader++) {
            for (int what = 0; what < TRADER_VALUES; what++) {
                hash = mix(hash, auction.traderValue(trader, what));
            }
        }
        return hash;
    }

    /** Counts on the clearing being settled for the auction. */
    private long mixOrders(long before) {
        long hash = before;
        for (int index = 0; index < auction.orders.count; index++) {
            hash = mix(hash, auction.orders.number.get(index));
            for (int what = 0; what < ORDER_VALUES; what++) {
                hash = mix(hash, auction.orders.valueOf(index, what));
            }
            hash = mix(hash, clearing.taken.get(index));
        }
        return hash;
    }

    private long mixTrades(long before) {
        long hash = before;
        for (int index = 0; index < auction.trades.count; index++) {
            for (int what = 0; what < TRADE_VALUES; what++) {
                hash = mix(hash, auction.trades.valueOf(index, what));
            }
        }
        return hash;
    }

    // ---- help for the calls above

    private static void refuse(int fault) {
        switch (fault) {
            case NOT_THERE:
                throw new IndexOutOfBoundsException("there is no such trader or order");
            case OUT_OF_RANGE:
                throw new IllegalArgumentException("a number is out of its range");
            case NOT_NOW:
                throw new IllegalStateException("this cannot be done now");
            default:
                return;
        }
    }

    private static boolean isWithin(int number, int least, int most) {
        return number >= least && number <= most;
    }

    private static int faultOfWhat(int what, int kinds) {
        return isWithin(what, 0, kinds - 1) ? FINE : OUT_OF_RANGE;
    }

    private static int faultOfPrice(int price) {
        return isWithin(price, 1, MAX_PRICE) ? FINE : OUT_OF_RANGE;
    }

    private int wholeValue(int what) {
        return what == 11 ? commands.length : auction.wholeValue(what);
    }

    /** Counts on the trial's last order being the trader's further one of one unit. */
    private int bestShadeOfLastOrder(int trader) {
        int last = trial.orders.count - 1;
        int best = 0;
        int most = 0;
        for (int shade = 0; shade <= MAX_AMOUNT; shade++) {
            trial.orders.price.put(last, trial.traders.bidWith(trader, shade));
            clearing.settle(trial);
            int gain = clearing.gainOf(trial, trader, clearing.price);
            if (shade == 0 || gain > most) {
                most = gain;
                best = shade;
            }
        }
        return best;
    }

    /** Tells what the command that was read last would throw. */
    private int faultOfCommand() {
        Word word = commands.word;
        int first = commands.numbers.get(0);
        int second = commands.numbers.get(1);
        int third = commands.numbers.get(2);
        if (word == null) {
            return NOT_NOW;
        }
        switch (word) {
            case BUYER:
                return auction.faultOfJoin(BUYS, first);
            case SELLER:
                return auction.faultOfJoin(SELLS, first);
            case SHADE:
                return auction.faultOfShade(first, second, third);
            case BID:
                return auction.faultOfBid(first, second);
            case ORDER:
                return auction.faultOfOrder(first, second, third);
            case CANCEL:
                return auction.orders.faultOfNumber(first);
            case SET:
                return auction.faultOfSetting(first, second);
            default:
                return auction.faultOfRound();
        }
    }

    /** Counts on the command that was read last having no fault of the above kind. */
    private void carryOutCommand() {
        Word word = commands.word;
        int first = commands.numbers.get(0);
        int second = commands.numbers.get(1);
        int third = commands.numbers.get(2);
        if (word == null) {
            return;
        }
        switch (word) {
            case BUYER:
                auction.traders.join(BUYS, first);
                break;
            case SELLER:
                auction.traders.join(SELLS, first);
                break;
            case SHADE:
                auction.traders.shadeBy(first, second, third);
                break;
            case BID:
                auction.place(first, auction.traders.bidOf(first), second);
                break;
            case ORDER:
                auction.place(first, second, third);
                break;
            case CANCEL:
                auction.orders.withdraw(first);
                break;
            case SET:
                auction.change(first, second);
                break;
            default:
                auction.endRound(clearing);
                break;
        }
    }

    /** A row of numbers that answers 0 beyond its ends and keeps nothing there, so that no index can throw. */
    private static final class Row {
        private final int[] cells;

        Row(int length) {
            cells = new int[length > 0 ? length : 0];
        }

        int get(int index) {
            return index >= 0 && index < cells.length ? cells[index] : 0;
        }

        void put(int index, int number) {
            if (index >= 0 && index < cells.length) {
                cells[index] = number;
            }
        }

        void add(int index, int number) {
            if (index >= 0 && index < cells.length) {
                cells[index] += number;
            }
        }

        void fillWithZeros() {
            for (int index = 0; index < cells.length; index++) {
                cells[index] = 0;
            }
        }

        void removeAt(int index) {
            for (int next = index + 1; next >= 1 && next < cells.length; next++) {
                cells[next - 1] = cells[next];
            }
        }

        void copyFrom(Row other) {
            for (int index = 0; index < cells.length; index++) {
                cells[index] = other.get(index);
            }
        }
    }

    /** The traders, a row for each kind of their values. */
    private static final class Traders {
        int count;
        final Row side = new Row(MAX_TRADERS);
        final Row value = new Row(MAX_TRADERS);
        final Row kind = new Row(MAX_TRADERS);
        final Row amount = new Row(MAX_TRADERS);
        final Row traded = new Row(MAX_TRADERS);
        final Row gains = new Row(MAX_TRADERS);
        final Row money = new Row(MAX_TRADERS);

        boolean has(int trader) {
            return trader >= 0 && trader < count;
        }

        int faultOfNumber(int trader) {
            return has(trader) ? FINE : NOT_THERE;
        }

        int join(int itsSide, int itsValue) {
            int trader = count;
            side.put(trader, itsSide);
            value.put(trader, itsValue);
            shadeBy(trader, HONEST, 0);
            traded.put(trader, 0);
            gains.put(trader, 0);
            money.put(trader, 0);
            count++;
            return trader;
        }

        void shadeBy(int trader, int itsKind, int itsAmount) {
            kind.put(trader, itsKind);
            amount.put(trader, itsAmount);
        }

        int bidOf(int trader) {
            return bidWith(trader, shadeOf(trader));
        }

        int bidWith(int trader, int shade) {
            if (side.get(trader) == BUYS) {
                return Math.max(1, value.get(trader) - shade);
            }
            return Math.min(MAX_PRICE, value.get(trader) + shade);
        }

        int gainPerUnit(int trader, int price) {
            return side.get(trader) == BUYS ? value.get(trader) - price : price - value.get(trader);
        }

        void book(int trader, int units, int price) {
            traded.add(trader, units);
            gains.add(trader, gainPerUnit(trader, price) * units);
            money.add(trader, (side.get(trader) == BUYS ? -price : price) * units);
        }

        /** A learner dares more if all was traded, and less if nothing was. */
        void learn(int trader, int held, int taken) {
            if (kind.get(trader) != LEARNING || held == 0) {
                return;
            }
            if (taken == held) {
                amount.put(trader, Math.min(MAX_AMOUNT, amount.get(trader) + 1));
            } else if (taken == 0) {
                amount.put(trader, Math.max(0, amount.get(trader) - 1));
            }
        }

        void copyFrom(Traders other) {
            count = other.count;
            side.copyFrom(other.side);
            value.copyFrom(other.value);
            kind.copyFrom(other.kind);
            amount.copyFrom(other.amount);
            traded.copyFrom(other.traded);
            gains.copyFrom(other.gains);
            money.copyFrom(other.money);
        }

        private int shadeOf(int trader) {
            switch (kind.get(trader)) {
                case FLAT:
                case LEARNING:
                    return amount.get(trader);
                case PART:
                    return value.get(trader) * amount.get(trader) / 100;
                default:
                    return 0;
            }
        }
    }

    /** The orders in the book, by their numbers, a row for each kind of their values. */
    private static final class Orders {
        int count;
        final Row number = new Row(MAX_ORDERS);
        final Row trader = new Row(MAX_ORDERS);
        final Row side = new Row(MAX_ORDERS);
        final Row price = new Row(MAX_ORDERS);
        final Row units = new Row(MAX_ORDERS);
        final Row round = new Row(MAX_ORDERS);

        boolean isFull() {
            return count >= MAX_ORDERS;
        }

        /** Returns -1 if there is no such order. */
        int indexOf(int itsNumber) {
            for (int index = 0; index < count; index++) {
                if (number.get(index) == itsNumber) {
                    return index;
                }
            }
            return -1;
        }

        int faultOfNumber(int itsNumber) {
            return indexOf(itsNumber) >= 0 ? FINE : NOT_THERE;
        }

        void append(int itsNumber, int itsTrader, int itsSide, int itsPrice, int itsUnits, int itsRound) {
            number.put(count, itsNumber);
            trader.put(count, itsTrader);
            side.put(count, itsSide);
            price.put(count, itsPrice);
            units.put(count, itsUnits);
            round.put(count, itsRound);
            count++;
        }

        int withdraw(int itsNumber) {
            int index = indexOf(itsNumber);
            int left = units.get(index);
            removeAt(index);
            return left;
        }

        void removeAt(int index) {
            if (index < 0 || index >= count) {
                return;
            }
            number.removeAt(index);
            trader.removeAt(index);
            side.removeAt(index);
            price.removeAt(index);
            units.removeAt(index);
            round.removeAt(index);
            count--;
        }

        /** Orders of equal price need no look at their numbers' values: the rows are kept by number. */
        boolean isAhead(int index, int other) {
            int better = price.get(index) - price.get(other);
            if (better == 0) {
                return index < other;
            }
            return side.get(index) == BUYS ? better > 0 : better < 0;
        }

        int placeOf(int index) {
            int place = 0;
            for (int other = 0; other < count; other++) {
                if (side.get(other) == side.get(index) && isAhead(other, index)) {
                    place++;
                }
            }
            return place;
        }

        boolean accepts(int index, int atPrice) {
            return side.get(index) == BUYS ? price.get(index) >= atPrice : price.get(index) <= atPrice;
        }

        int unitsAt(int itsSide, int atPrice) {
            int sum = 0;
            for (int index = 0; index < count; index++) {
                if (side.get(index) == itsSide && accepts(index, atPrice)) {
                    sum += units.get(index);
                }
            }
            return sum;
        }

        int bookValue(int atPrice, int what) {
            switch (what) {
                case 0:
                    return unitsAt(BUYS, atPrice);
                case 1:
                    return unitsAt(SELLS, atPrice);
                default:
                    return Math.min(unitsAt(BUYS, atPrice), unitsAt(SELLS, atPrice));
            }
        }

        int countOf(int itsTrader) {
            int sum = 0;
            for (int index = 0; index < count; index++) {
                if (trader.get(index) == itsTrader) {
                    sum++;
                }
            }
            return sum;
        }

        int unitsOf(int itsTrader) {
            int sum = 0;
            for (int index = 0; index < count; index++) {
                if (trader.get(index) == itsTrader) {
                    sum += units.get(index);
                }
            }
            return sum;
        }

        int valueOf(int index, int what) {
            switch (what) {
                case 0:
                    return trader.get(index);
                case 1:
                    return price.get(index);
                case 2:
                    return units.get(index);
                case 3:
                    return round.get(index);
                default:
                    return placeOf(index);
            }
        }

        void removeEmpty() {
            for (int index = count - 1; index >= 0; index--) {
                if (units.get(index) == 0) {
                    removeAt(index);
                }
            }
        }

        /** Returns how many orders there were of the given round and of those before it. */
        int removeUpTo(int lastRound) {
            int before = count;
            for (int index = count - 1; index >= 0; index--) {
                if (round.get(index) <= lastRound) {
                    removeAt(index);
                }
            }
            return before - count;
        }

        void copyFrom(Orders other) {
            count = other.count;
            number.copyFrom(other.number);
            trader.copyFrom(other.trader);
            side.copyFrom(other.side);
            price.copyFrom(other.price);
            units.copyFrom(other.units);
            round.copyFrom(other.round);
        }
    }

    /** The trades of the last round that was cleared; each ends an order at least, so the orders' limit holds them. */
    private static final class Trades {
        int count;
        final Row bought = new Row(MAX_ORDERS);
        final Row sold = new Row(MAX_ORDERS);
        final Row units = new Row(MAX_ORDERS);
        final Row buyer = new Row(MAX_ORDERS);
        final Row seller = new Row(MAX_ORDERS);

        void append(Orders orders, int buy, int sell, int itsUnits) {
            bought.put(count, orders.number.get(buy));
            sold.put(count, orders.number.get(sell));
            units.put(count, itsUnits);
            buyer.put(count, orders.trader.get(buy));
            seller.put(count, orders.trader.get(sell));
            count++;
        }

        int valueOf(int index, int what) {
            if (index >= count) {
                return NONE;
            }
            switch (what) {
                case 0:
                    return bought.get(index);
                case 1:
                    return sold.get(index);
                case 2:
                    return units.get(index);
                case 3:
                    return buyer.get(index);
                default:
                    return seller.get(index);
            }
        }

        void copyFrom(Trades other) {
            count = other.count;
            bought.copyFrom(other.bought);
            sold.copyFrom(other.sold);
            units.copyFrom(other.units);
            buyer.copyFrom(other.buyer);
            seller.copyFrom(other.seller);
        }
    }

    /** The whole state but the command text and the undo stack. */
    private static final class Auction {
        final Traders traders = new Traders();
        final Orders orders = new Orders();
        final Trades trades = new Trades();
        int split = 5;
        int life = 3;
        private int round;
        private int placed;
        private int traded;
        private int surplus;
        private int lastPrice = NONE;
        private int expired;

        int faultOfJoin(int side, int value) {
            if (!isWithin(side, BUYS, SELLS) || !isWithin(value, 1, MAX_VALUE)) {
                return OUT_OF_RANGE;
            }
            return traders.count >= MAX_TRADERS ? NOT_NOW : FINE;
        }

        int faultOfValue(int trader, int value) {
            if (!traders.has(trader)) {
                return NOT_THERE;
            }
            return isWithin(value, 1, MAX_VALUE) ? FINE : OUT_OF_RANGE;
        }

        int faultOfShade(int trader, int kind, int amount) {
            if (!traders.has(trader)) {
                return NOT_THERE;
            }
            return isWithin(kind, HONEST, LEARNING) && isWithin(amount, 0, MAX_AMOUNT) ? FINE : OUT_OF_RANGE;
        }

        int faultOfSetting(int what, int value) {
            if (what == 0) {
                return isWithin(value, 0, MAX_SPLIT) ? FINE : OUT_OF_RANGE;
            }
            return what == 1 && isWithin(value, 1, MAX_LIFE) ? FINE : OUT_OF_RANGE;
        }

        /** A trader's bid is always a price that an order may have, so any such price stands for it. */
        int faultOfBid(int trader, int units) {
            return faultOfOrder(trader, 1, units);
        }

        int faultOfOrder(int trader, int price, int units) {
            if (!traders.has(trader)) {
                return NOT_THERE;
            }
            if (!isWithin(price, 1, MAX_PRICE) || !isWithin(units, 1, MAX_UNITS)) {
                return OUT_OF_RANGE;
            }
            return orders.isFull() ? NOT_NOW : FINE;
        }

        int faultOfRound() {
            return round >= LAST_ROUND ? NOT_NOW : FINE;
        }

        int change(int what, int value) {
            int previous = what == 0 ? split : life;
            if (what == 0) {
                split = value;
            } else {
                life = value;
            }
            return previous;
        }

        int place(int trader, int price, int units) {
            orders.append(placed, trader, traders.side.get(trader), price, units, round);
            placed++;
            return placed - 1;
        }

        /** Clears the round, whichever it is: what-if questions go beyond the last one. */
        int endRound(Clearing clearing) {
            clearing.settle(this);
            clearing.pairOff(orders, trades);
            lastPrice = clearing.price;
            traded += clearing.volume;
            surplus += clearing.surplus;
            for (int trader = 0; trader < traders.count; trader++) {
                int taken = clearing.takenOf(orders, trader);
                traders.book(trader, taken, clearing.price);
                traders.learn(trader, orders.unitsOf(trader), taken);
            }
            for (int index = 0; index < orders.count; index++) {
                orders.units.add(index, -clearing.taken.get(index));
            }
            orders.removeEmpty();
            round++;
            expired += orders.removeUpTo(round - life);
            return clearing.volume;
        }

        int traderValue(int trader, int what) {
            switch (what) {
                case 0:
                    return traders.side.get(trader);
                case 1:
                    return traders.value.get(trader);
                case 2:
                    return traders.kind.get(trader);
                case 3:
                    return traders.amount.get(trader);
                case 4:
                    return traders.bidOf(trader);
                case 5:
                    return orders.countOf(trader);
                case 6:
                    return orders.unitsOf(trader);
                case 7:
                    return traders.traded.get(trader);
                case 8:
                    return traders.gains.get(trader);
                default:
                    return traders.money.get(trader);
            }
        }

        int wholeValue(int what) {
            switch (what) {
                case 0:
                    return traders.count;
                case 1:
                    return orders.count;
                case 2:
                    return round;
                case 3:
                    return split;
                case 4:
                    return life;
                case 5:
                    return placed;
                case 6:
                    return traded;
                case 7:
                    return surplus;
                case 8:
                    return lastPrice;
                case 9:
                    return trades.count;
                default:
                    return expired;
            }
        }

        void copyFrom(Auction other) {
            traders.copyFrom(other.traders);
            orders.copyFrom(other.orders);
            trades.copyFrom(other.trades);
            split = other.split;
            life = other.life;
            round = other.round;
            placed = other.placed;
            traded = other.traded;
            surplus = other.surplus;
            lastPrice = other.lastPrice;
            expired = other.expired;
        }
    }

    /** What clearing an auction would bring; the same rows serve every question, as a run may ask very many. */
    private static final class Clearing {
        int lowest;
        int highest;
        int price;
        int volume;
        int surplus;
        /** Units traded of each order, by its index in the book. */
        final Row taken = new Row(MAX_ORDERS);
        private final Row buys = new Row(MAX_ORDERS);
        private final Row sells = new Row(MAX_ORDERS);
        private int buyCount;
        private int sellCount;
        private final Row wanted = new Row(MAX_PRICE + 1);
        private final Row offered = new Row(MAX_PRICE + 1);

        void settle(Auction auction) {
            buyCount = queueUp(buys, auction.orders, BUYS);
            sellCount = queueUp(sells, auction.orders, SELLS);
            findRange(auction.orders);
            price = priceWith(auction.split);
            take(buys, buyCount, auction.orders);
            take(sells, sellCount, auction.orders);
            surplus = sumSurplus(auction);
        }

        int priceWith(int split) {
            return volume == 0 ? NONE : lowest + (highest - lowest) * split / 10;
        }

        /** Counts on being settled for that auction. */
        int valueOf(Auction auction, int what) {
            switch (what) {
                case 0:
                    return lowest;
                case 1:
                    return highest;
                case 2:
                    return price;
                case 3:
                    return volume;
                case 4:
                    return surplus;
                case 5:
                    return findGreatest(auction);
                default:
                    return hundredthsOf(findGreatest(auction));
            }
        }

        int reasonOf(Orders orders, int index) {
            if (taken.get(index) == orders.units.get(index)) {
                return 0;
            }
            if (volume == 0) {
                return 1;
            }
            return orders.accepts(index, price) ? 3 : 2;
        }

        int takenOf(Orders orders, int trader) {
            int sum = 0;
            for (int index = 0; index < orders.count; index++) {
                if (orders.trader.get(index) == trader) {
                    sum += taken.get(index);
                }
            }
            return sum;
        }

        int gainOf(Auction auction, int trader, int atPrice) {
            return takenOf(auction.orders, trader) * auction.traders.gainPerUnit(trader, atPrice);
        }

        /** Writes the trades: the first unit that is bought with the first one that is sold, and so on. */
        void pairOff(Orders orders, Trades trades) {
            trades.count = 0;
            int buy = 0;
            int sell = 0;
            int bought = 0;
            int sold = 0;
            while (buy < buyCount && sell < sellCount) {
                int buyLeft = taken.get(buys.get(buy)) - bought;
                int sellLeft = taken.get(sells.get(sell)) - sold;
                int units = Math.min(buyLeft, sellLeft);
                if (units > 0) {
                    trades.append(orders, buys.get(buy), sells.get(sell), units);
                }
                bought += units;
                sold += units;
                if (buyLeft <= sellLeft) {
                    buy++;
                    bought = 0;
                }
                if (sellLeft <= buyLeft) {
                    sell++;
                    sold = 0;
                }
            }
        }

        /** Puts the orders of a side in their priority; returns how many there are. */
        private static int queueUp(Row queue, Orders orders, int side) {
            int length = 0;
            for (int index = 0; index < orders.count; index++) {
                if (orders.side.get(index) == side) {
                    int place = length;
                    while (place > 0 && orders.isAhead(index, queue.get(place - 1))) {
                        queue.put(place, queue.get(place - 1));
                        place--;
                    }
                    queue.put(place, index);
                    length++;
                }
            }
            return length;
        }

        private void findRange(Orders orders) {
            int demand = tallyPrices(orders);
            int supply = 0;
            volume = 0;
            lowest = NONE;
            highest = NONE;
            for (int at = 1; at <= MAX_PRICE; at++) {
                demand -= wanted.get(at - 1);
                supply += offered.get(at);
                int least = Math.min(demand, supply);
                if (least > volume) {
                    volume = least;
                    lowest = at;
                }
                // The prices with the greatest volume stand side by side: demand only falls, supply only rises.
                if (least == volume && volume > 0) {
                    highest = at;
                }
            }
        }

        /** Returns the units of all orders that buy. */
        private int tallyPrices(Orders orders) {
            wanted.fillWithZeros();
            offered.fillWithZeros();
            int sum = 0;
            for (int index = 0; index < orders.count; index++) {
                if (orders.side.get(index) == BUYS) {
                    wanted.add(orders.price.get(index), orders.units.get(index));
                    sum += orders.units.get(index);
                } else {
                    offered.add(orders.price.get(index), orders.units.get(index));
                }
            }
            return sum;
        }

        /** Needs no look at prices: at least the volume stands at the price or better, and that at the front. */
        private void take(Row queue, int length, Orders orders) {
            int left = volume;
            for (int place = 0; place < length; place++) {
                int index = queue.get(place);
                int units = Math.min(left, orders.units.get(index));
                taken.put(index, units);
                left -= units;
            }
        }

        private int sumSurplus(Auction auction) {
            int sum = 0;
            for (int index = 0; index < auction.orders.count; index++) {
                int worth = auction.traders.value.get(auction.orders.trader.get(index)) * taken.get(index);
                sum += auction.orders.side.get(index) == BUYS ? worth : -worth;
            }
            return sum;
        }

        private int findGreatest(Auction auction) {
            tallyValues(auction);
            int high = MAX_VALUE;
            int low = 1;
            int sum = 0;
            while (high > low) {
                int units = Math.min(wanted.get(high), offered.get(low));
                sum += units * (high - low);
                wanted.add(high, -units);
                offered.add(low, -units);
                if (wanted.get(high) == 0) {
                    high--;
                } else {
                    low++;
                }
            }
            return sum;
        }

        private void tallyValues(Auction auction) {
            wanted.fillWithZeros();
            offered.fillWithZeros();
            for (int index = 0; index < auction.orders.count; index++) {
                int value = auction.traders.value.get(auction.orders.trader.get(index));
                Row row = auction.orders.side.get(index) == BUYS ? wanted : offered;
                row.add(value, auction.orders.units.get(index));
            }
        }

        private int hundredthsOf(int greatest) {
            if (surplus < 0) {
                return 0;
            }
            return greatest > 0 ? surplus * 100 / greatest : 100;
        }
    }

    /** The latest saved states; places are made once and written over. */
    private static final class UndoStack {
        int count;
        private int oldest;
        private final Auction[] states = new Auction[MAX_SAVED];

        UndoStack() {
            for (int place = 0; place < states.length; place++) {
                states[place] = new Auction();
            }
        }

        void push(Auction present) {
            if (count == MAX_SAVED) {
                oldest = Math.floorMod(oldest + 1, MAX_SAVED);
                count--;
            }
            Auction place = placeOf(count);
            if (place != null) {
                place.copyFrom(present);
            }
            count++;
        }

        void pop(Auction present) {
            if (count == 0) {
                return;
            }
            count--;
            Auction place = placeOf(count);
            if (place != null) {
                present.copyFrom(place);
            }
        }

        private Auction placeOf(int height) {
            int place = Math.floorMod(oldest + height, MAX_SAVED);
            return place >= 0 && place < states.length ? states[place] : null;
        }
    }

    /** The words of commands, each with how many numbers follow it. */
    private enum Word {
        BUYER("buyer", 1),
        SELLER("seller", 1),
        SHADE("shade", 3),
        BID("bid", 2),
        ORDER("order", 3),
        CANCEL("cancel", 1),
        SET("set", 2),
        CLEAR("clear", 0);

        private static final Word[] ALL = values();

        private final String letters;
        private final int numbers;

        Word(String letters, int numbers) {
            this.letters = letters;
            this.numbers = numbers;
        }

        /** Returns null if no command has the word that stands at the given place. */
        static Word of(Row bytes, int start, int length) {
            for (int index = 0; index < ALL.length; index++) {
                Word word = ALL[index];
                if (word != null && word.stands(bytes, start, length)) {
                    return word;
                }
            }
            return null;
        }

        private boolean stands(Row bytes, int start, int length) {
            if (length != letters.length()) {
                return false;
            }
            for (int index = 0; index < letters.length(); index++) {
                if (bytes.get(start + index) != letters.charAt(index)) {
                    return false;
                }
            }
            return true;
        }
    }

    /** The command text, and a reader that goes through it command by command. */
    private static final class CommandText {
        private static final int NO_BYTE = -1;

        int length;
        /** The command that was read last. */
        Word word;
        final Row numbers = new Row(3);
        private final Row bytes = new Row(MAX_TEXT);
        private int cursor;
        private int fault = -1;

        int faultOfByte(int value) {
            if (!isWithin(value, 0, 127)) {
                return OUT_OF_RANGE;
            }
            return length >= MAX_TEXT ? NOT_NOW : FINE;
        }

        int append(int value) {
            bytes.put(length, value);
            length++;
            return length;
        }

        int empty() {
            int before = length;
            length = 0;
            return before;
        }

        void rewind() {
            cursor = 0;
            fault = -1;
        }

        /** Returns -1 if the text has no fault. */
        int findFault() {
            rewind();
            for (int read = 0; read < MAX_TEXT; read++) {
                if (!readCommand()) {
                    return fault;
                }
            }
            return fault;
        }

        /** Returns whether there was a whole command; if not, the text is at its end or has a fault. */
        boolean readCommand() {
            skipSpaces();
            if (cursor == length || !readWord()) {
                return false;
            }
            int wanted = word == null ? 0 : word.numbers;
            for (int index = 0; index < wanted; index++) {
                if (!readNumber(index)) {
                    return false;
                }
            }
            skipSpaces();
            return readByte(';');
        }

        private int byteAt(int index) {
            return index < length ? bytes.get(index) : NO_BYTE;
        }

        private void skipSpaces() {
            while (cursor < length && byteAt(cursor) == ' ') {
                cursor++;
            }
        }

        /** A byte that is not the wanted one is the fault; so is the text's end, at its length. */
        private boolean readByte(int wanted) {
            if (byteAt(cursor) != wanted) {
                fault = cursor;
                return false;
            }
            cursor++;
            return true;
        }

        /** A word that no command has is at fault with its first byte, and so is a byte that begins no word. */
        private boolean readWord() {
            int start = cursor;
            while (cursor < length && isWithin(byteAt(cursor), 'a', 'z')) {
                cursor++;
            }
            word = Word.of(bytes, start, cursor - start);
            if (word == null) {
                fault = start;
            }
            return word != null;
        }

        private boolean readNumber(int index) {
            if (!readByte(' ')) {
                return false;
            }
            skipSpaces();
            int number = 0;
            int digits = 0;
            while (digits < 3 && isWithin(byteAt(cursor), '0', '9')) {
                number = number * 10 + byteAt(cursor) - '0';
                digits++;
                cursor++;
            }
            numbers.put(index, number);
            if (digits == 0) {
                fault = cursor;
            }
            return digits > 0;
        }
    }
}
