import java.util.ArrayList;
import java.util.Comparator;
import java.util.List;
import java.util.regex.Matcher;
import java.util.regex.Pattern;

/**
 * The document once more, written unit by unit and without any thrift, as a judge of the program.
 * Where a call is refused, the exception is written as a text: "IOOBE", "IAE" or "ISE".
 */
final class Model {
    static final int NONE = -10000;

    static final class Refused extends RuntimeException {
        private static final long serialVersionUID = 1L;

        Refused(String why) {
            super(why);
        }
    }

    private static final class Trader implements Cloneable {
        int side, value, kind, amount, traded, gains, money;

        int bid() {
            int shade = kind == 0 ? 0 : kind == 2 ? value * amount / 100 : amount;
            return side == 0 ? Math.max(value - shade, 1) : Math.min(value + shade, 120);
        }

        Trader copy() {
            try {
                return (Trader) clone();
            } catch (CloneNotSupportedException e) {
                throw new IllegalStateException(e);
            }
        }
    }

    private static final class Order {
        final int number, trader, price, round;
        int units;

        Order(int number, int trader, int price, int units, int round) {
            this.number = number;
            this.trader = trader;
            this.price = price;
            this.units = units;
            this.round = round;
        }
    }

    private static final class State {
        final List<Trader> traders = new ArrayList<>();
        final List<Order> orders = new ArrayList<>();
        final List<int[]> trades = new ArrayList<>();
        int split = 5, life = 3, round, placed, traded, surplus, price = NONE, expired;

        State copy() {
            State copy = new State();
            for (Trader t : traders) {
                copy.traders.add(t.copy());
            }
            for (Order o : orders) {
                copy.orders.add(new Order(o.number, o.trader, o.price, o.units, o.round));
            }
            for (int[] t : trades) {
                copy.trades.add(t.clone());
            }
            copy.split = split;
            copy.life = life;
            copy.round = round;
            copy.placed = placed;
            copy.traded = traded;
            copy.surplus = surplus;
            copy.price = price;
            copy.expired = expired;
            return copy;
        }

        int side(Order o) {
            return traders.get(o.trader).side;
        }

        int demand(int p) {
            return orders.stream().filter(o -> side(o) == 0 && o.price >= p).mapToInt(o -> o.units).sum();
        }

        int supply(int p) {
            return orders.stream().filter(o -> side(o) == 1 && o.price <= p).mapToInt(o -> o.units).sum();
        }

        int volume(int p) {
            return Math.min(demand(p), supply(p));
        }

        List<Order> queue(int side) {
            List<Order> queue = new ArrayList<>();
            for (Order o : orders) {
                if (side(o) == side) {
                    queue.add(o);
                }
            }
            queue.sort(Comparator.<Order>comparingInt(o -> side == 0 ? -o.price : o.price)
                    .thenComparingInt(o -> o.number));
            return queue;
        }
    }

    private static final class Outcome {
        int lowest = NONE, highest = NONE, price = NONE, volume;
        /** A pair of orders for each unit. */
        final List<Order[]> pairs = new ArrayList<>();
    }

    private static final Pattern TEXT = Pattern.compile(
            "(?: *(?:(?:buyer|seller|cancel)(?: +[0-9]{1,3}){1}|(?:bid|set)(?: +[0-9]{1,3}){2}"
            + "|(?:shade|order)(?: +[0-9]{1,3}){3}|clear) *;)* *");
    private static final String WORDS = " buyer seller shade bid order cancel set clear ";

    private State state = new State();
    private final List<State> saved = new ArrayList<>();
    private StringBuilder text = new StringBuilder();

    /** Tells the answer of a call by its name. */
    long call(String name, int a, int b, int c) {
        switch (name) {
            case "addTrader": case "setValue": case "setShade": case "set": case "bid": case "order": case "cancel":
            case "clear":
                return undoable(name, a, b, c);
            case "trader":
                need(a >= 0 && a < state.traders.size(), "IOOBE");
                need(b >= 0 && b <= 9, "IAE");
                return trader(a, b);
            case "orderOf":
                find(a);
                need(b >= 0 && b <= 4, "IAE");
                return orderOf(a, b);
            case "trade":
                need(a >= 0 && b >= 0 && b <= 4, "IAE");
                return a < state.trades.size() ? state.trades.get(a)[b] : NONE;
            case "at":
                need(a >= 1 && a <= 120 && b >= 0 && b <= 2, "IAE");
                return b == 0 ? state.demand(a) : b == 1 ? state.supply(a) : state.volume(a);
            case "now":
                need(a >= 0 && a <= 6, "IAE");
                return now(a);
            case "whole":
                need(a >= 0 && a <= 11, "IAE");
                return whole(a);
            case "filled":
                return filled(settle(state), find(a));
            case "reason":
                return reason(find(a));
            case "gainWith":
                need(a >= 0 && a < state.traders.size(), "IOOBE");
                need(b >= 1 && b <= 120, "IAE");
                return gainWith(a, b);
            case "bestShade":
                need(a >= 0 && a < state.traders.size(), "IOOBE");
                return bestShade(a);
            case "bestSplit":
                need(a >= 0 && a < state.traders.size(), "IOOBE");
                return bestSplit(a);
            case "goneIn":
                find(a);
                return goneIn(a);
            case "type":
                need(a >= 0 && a <= 127, "IAE");
                need(text.length() < 150, "ISE");
                return text.append((char) a).length();
            case "clearCommands":
                int length = text.length();
                text = new StringBuilder();
                return length;
            case "runCommands":
                return runCommands();
            case "undo":
                need(!saved.isEmpty(), "ISE");
                state = saved.remove(saved.size() - 1);
                return saved.size();
            case "digest":
                return digest();
            default:
                throw new IllegalArgumentException(name);
        }
    }

    private static void need(boolean holds, String otherwise) {
        if (!holds) {
            throw new Refused(otherwise);
        }
    }

    private Order find(int number) {
        for (Order o : state.orders) {
            if (o.number == number) {
                return o;
            }
        }
        throw new Refused("IOOBE");
    }

    private long undoable(String name, int a, int b, int c) {
        State before = state.copy();
        long answer = change(name, a, b, c);
        save(before);
        return answer;
    }

    private void save(State before) {
        saved.add(before);
        if (saved.size() > 4) {
            saved.remove(0);
        }
    }

    private int change(String name, int a, int b, int c) {
        boolean there = a >= 0 && a < state.traders.size();
        switch (name) {
            case "addTrader":
                need((a == 0 || a == 1) && b >= 1 && b <= 99, "IAE");
                need(state.traders.size() < 8, "ISE");
                Trader fresh = new Trader();
                fresh.side = a;
                fresh.value = b;
                state.traders.add(fresh);
                return state.traders.size() - 1;
            case "setValue":
                need(there, "IOOBE");
                need(b >= 1 && b <= 99, "IAE");
                int old = state.traders.get(a).value;
                state.traders.get(a).value = b;
                return old;
            case "setShade":
                need(there, "IOOBE");
                need(b >= 0 && b <= 3 && c >= 0 && c <= 50, "IAE");
                state.traders.get(a).kind = b;
                state.traders.get(a).amount = c;
                return state.traders.get(a).bid();
            case "set":
                need(a == 0 && b >= 0 && b <= 10 || a == 1 && b >= 1 && b <= 9, "IAE");
                int previous = a == 0 ? state.split : state.life;
                state.split = a == 0 ? b : state.split;
                state.life = a == 1 ? b : state.life;
                return previous;
            case "bid":
                need(there, "IOOBE");
                need(b >= 1 && b <= 9, "IAE");
                need(state.orders.size() < 20, "ISE");
                return place(state, a, state.traders.get(a).bid(), b);
            case "order":
                need(there, "IOOBE");
                need(b >= 1 && b <= 120 && c >= 1 && c <= 9, "IAE");
                need(state.orders.size() < 20, "ISE");
                return place(state, a, b, c);
            case "cancel":
                Order gone = find(a);
                state.orders.remove(gone);
                return gone.units;
            default:
                need(state.round != 9999, "ISE");
                return clear(state);
        }
    }

    private static int place(State s, int trader, int price, int units) {
        s.orders.add(new Order(s.placed, trader, price, units, s.round));
        return s.placed++;
    }

    private static Outcome settle(State s) {
        Outcome out = new Outcome();
        for (int p = 1; p <= 120; p++) {
            out.volume = Math.max(out.volume, s.volume(p));
        }
        if (out.volume == 0) {
            return out;
        }
        for (int p = 120; p >= 1; p--) {
            if (s.volume(p) == out.volume) {
                out.lowest = p;
                out.highest = Math.max(out.highest, p);
            }
        }
        out.price = out.lowest + (out.highest - out.lowest) * s.split / 10;
        List<Order> buys = units(s, 0, out.price);
        List<Order> sells = units(s, 1, out.price);
        for (int unit = 0; unit < out.volume; unit++) {
            out.pairs.add(new Order[] {buys.get(unit), sells.get(unit)});
        }
        return out;
    }

    private static List<Order> units(State s, int side, int price) {
        List<Order> units = new ArrayList<>();
        for (Order o : s.queue(side)) {
            for (int unit = 0; unit < o.units; unit++) {
                if (side == 0 ? o.price >= price : o.price <= price) {
                    units.add(o);
                }
            }
        }
        return units;
    }

    private static int clear(State s) {
        Outcome out = settle(s);
        int[] held = new int[8];
        int[] taken = new int[8];
        for (Order o : s.orders) {
            held[o.trader] += o.units;
        }
        s.trades.clear();
        int[] last = null;
        for (Order[] pair : out.pairs) {
            if (last == null || last[0] != pair[0].number || last[1] != pair[1].number) {
                last = new int[] {pair[0].number, pair[1].number, 0, pair[0].trader, pair[1].trader};
                s.trades.add(last);
            }
            last[2]++;
            for (Order o : pair) {
                Trader t = s.traders.get(o.trader);
                int sign = t.side == 0 ? 1 : -1;
                t.traded++;
                t.gains += sign * (t.value - out.price);
                t.money -= sign * out.price;
                s.surplus += sign * t.value;
                taken[o.trader]++;
                o.units--;
            }
        }
        s.orders.removeIf(o -> o.units == 0);
        s.price = out.price;
        s.traded += out.volume;
        for (int t = 0; t < s.traders.size(); t++) {
            Trader trader = s.traders.get(t);
            if (trader.kind == 3 && held[t] > 0 && taken[t] == held[t] && trader.amount < 50) {
                trader.amount++;
            } else if (trader.kind == 3 && held[t] > 0 && taken[t] == 0 && trader.amount > 0) {
                trader.amount--;
            }
        }
        s.round++;
        int before = s.orders.size();
        s.orders.removeIf(o -> s.round - o.round >= s.life);
        s.expired += before - s.orders.size();
        return out.volume;
    }

    private int trader(int trader, int what) {
        Trader t = state.traders.get(trader);
        int count = 0;
        int units = 0;
        for (Order o : state.orders) {
            count += o.trader == trader ? 1 : 0;
            units += o.trader == trader ? o.units : 0;
        }
        return new int[] {t.side, t.value, t.kind, t.amount, t.bid(), count, units, t.traded, t.gains, t.money}[what];
    }

    private int orderOf(int number, int what) {
        Order o = find(number);
        return new int[] {o.trader, o.price, o.units, o.round, state.queue(state.side(o)).indexOf(o)}[what];
    }

    private int now(int what) {
        Outcome out = settle(state);
        int surplus = 0;
        for (Order[] pair : out.pairs) {
            surplus += state.traders.get(pair[0].trader).value - state.traders.get(pair[1].trader).value;
        }
        int greatest = greatest();
        int part = surplus < 0 ? 0 : greatest == 0 ? 100 : surplus * 100 / greatest;
        return new int[] {out.lowest, out.highest, out.price, out.volume, surplus, greatest, part}[what];
    }

    private int greatest() {
        List<Integer> buys = new ArrayList<>();
        List<Integer> sells = new ArrayList<>();
        for (Order o : state.orders) {
            for (int unit = 0; unit < o.units; unit++) {
                (state.side(o) == 0 ? buys : sells).add(state.traders.get(o.trader).value);
            }
        }
        buys.sort(Comparator.reverseOrder());
        sells.sort(Comparator.naturalOrder());
        int sum = 0;
        for (int unit = 0; unit < Math.min(buys.size(), sells.size()); unit++) {
            sum += Math.max(0, buys.get(unit) - sells.get(unit));
        }
        return sum;
    }

    private int whole(int what) {
        State s = state;
        return new int[] {s.traders.size(), s.orders.size(), s.round, s.split, s.life, s.placed, s.traded, s.surplus,
            s.price, s.trades.size(), s.expired, text.length()}[what];
    }

    private static int filled(Outcome out, Order o) {
        int units = 0;
        for (Order[] pair : out.pairs) {
            units += pair[0] == o || pair[1] == o ? 1 : 0;
        }
        return units;
    }

    private int reason(Order o) {
        Outcome out = settle(state);
        if (filled(out, o) == o.units) {
            return 0;
        }
        if (out.volume == 0) {
            return 1;
        }
        return (state.side(o) == 0 ? o.price < out.price : o.price > out.price) ? 2 : 3;
    }

    /** What clearing really brings is taken from the trader's account. */
    private static int gainByClearing(State s, int trader) {
        int before = s.traders.get(trader).gains;
        clear(s);
        return s.traders.get(trader).gains - before;
    }

    private int gainWith(int trader, int price) {
        if (state.orders.size() >= 20) {
            return NONE;
        }
        State s = state.copy();
        place(s, trader, price, 1);
        return gainByClearing(s, trader);
    }

    private int bestShade(int trader) {
        if (state.orders.size() >= 20) {
            return NONE;
        }
        int best = 50;
        for (int shade = 50; shade >= 0; shade--) {
            if (gainOfShade(trader, shade) >= gainOfShade(trader, best)) {
                best = shade;
            }
        }
        return best;
    }

    private int gainOfShade(int trader, int shade) {
        Trader flat = state.traders.get(trader).copy();
        flat.kind = 1;
        flat.amount = shade;
        return gainWith(trader, flat.bid());
    }

    private int bestSplit(int trader) {
        if (settle(state).volume == 0) {
            return NONE;
        }
        int best = NONE;
        int most = 0;
        for (int split = 0; split <= 10; split++) {
            State s = state.copy();
            s.split = split;
            int gain = gainByClearing(s, trader);
            if (best == NONE || gain > most) {
                best = split;
                most = gain;
            }
        }
        return best;
    }

    private int goneIn(int number) {
        State s = state.copy();
        for (int rounds = 1;; rounds++) {
            clear(s);
            if (s.orders.stream().noneMatch(o -> o.number == number)) {
                return rounds;
            }
        }
    }

    private int runCommands() {
        int fault = fault(text.toString());
        if (fault >= 0) {
            return -10 - fault;
        }
        State before = state.copy();
        int done = 0;
        try {
            for (String command : text.toString().split(";")) {
                if (!command.isBlank()) {
                    carryOut(command.trim().split(" +"));
                    done++;
                }
            }
        } catch (Refused e) {
            // those before it stay done
        }
        save(before);
        return done;
    }

    private void carryOut(String[] parts) {
        int[] n = new int[4];
        for (int i = 1; i < parts.length; i++) {
            n[i] = Integer.parseInt(parts[i]);
        }
        switch (parts[0]) {
            case "buyer":
                change("addTrader", 0, n[1], 0);
                break;
            case "seller":
                change("addTrader", 1, n[1], 0);
                break;
            case "shade":
                change("setShade", n[1], n[2], n[3]);
                break;
            default:
                change(parts[0], n[1], n[2], n[3]);
                break;
        }
    }

    /** Asks the pattern's matcher of each beginning whether it could go on. */
    static int fault(String text) {
        int at = 0;
        while (at < text.length() && canStand(text.substring(0, at + 1))) {
            at++;
        }
        if (at == text.length() && TEXT.matcher(text).matches()) {
            return -1;
        }
        int start = at;
        while (start > 0 && isLetter(text, start - 1)) {
            start--;
        }
        int end = at;
        while (isLetter(text, end)) {
            end++;
        }
        boolean known = WORDS.contains(" " + text.substring(start, end) + " ");
        return known || start == end ? at : start;
    }

    private static boolean isLetter(String text, int index) {
        return index < text.length() && text.charAt(index) >= 'a' && text.charAt(index) <= 'z';
    }

    private static boolean canStand(String beginning) {
        Matcher matcher = TEXT.matcher(beginning);
        return matcher.matches() || matcher.hitEnd();
    }

    private long digest() {
        List<Integer> values = new ArrayList<>();
        values.add(saved.size());
        for (int what = 0; what <= 11; what++) {
            values.add(whole(what));
        }
        for (int what = 0; what <= 6; what++) {
            values.add(now(what));
        }
        for (int trader = 0; trader < state.traders.size(); trader++) {
            for (int what = 0; what <= 9; what++) {
                values.add(trader(trader, what));
            }
        }
        for (Order o : state.orders) {
            values.add(o.number);
            for (int what = 0; what <= 4; what++) {
                values.add(orderOf(o.number, what));
            }
            values.add(filled(settle(state), o));
        }
        for (int[] trade : state.trades) {
            for (int value : trade) {
                values.add(value);
            }
        }
        long h = 43616;
        for (int value : values) {
            h = 31 * h + value;
        }
        return h;
    }
}
