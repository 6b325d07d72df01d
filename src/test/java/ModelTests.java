/** Long runs of calls, mixed by a fixed rule, on the program and on the model: their answers are the same. */
final class ModelTests {
    private static final int RUNS = 600;
    private static final int CALLS = 200;
    private static final String[] CALLED = {
        "addTrader", "setValue", "setShade", "set", "bid", "order", "cancel", "clear", "trader", "orderOf", "trade",
        "at", "now", "whole", "filled", "reason", "gainWith", "bestShade", "bestSplit", "goneIn", "type",
        "clearCommands", "runCommands", "undo", "digest"
    };
    /** How often each of those is called, in parts of their sum. */
    private static final int[] OFTEN = {
        6, 4, 8, 4, 25, 25, 4, 10, 6, 6, 5,
        5, 6, 6, 5, 5, 3, 2, 3, 4, 1,
        1, 1, 6, 8
    };
    private static final String[] PIECES = {
        "buyer 60", "seller 40", "seller 030", "shade 0 3 10", "shade 1 2 25", "bid 0 2", "bid 1 3", "bid 2  1",
        "order 0 50 3", "order 1 45 9", "order 1 120 1", "cancel 0", "cancel 3", "set 0 7", "set 1 1", "clear", "clear",
        "set 2 2", "buyer 0", "order 0 121 1", "cance", "clear 1", "bid 1", "buyer 1234", "Buyer 1", "buyer1", ""
    };

    private long seed;
    /** Whether prices stand at the ends of their range, and values all over theirs. */
    private boolean wide;
    private final ShadedBooks books = new ShadedBooks();
    private final Model model = new Model();

    private ModelTests(long seed) {
        this.seed = seed;
    }

    static void run() {
        Check.test("model: mixed calls", () -> {
            for (int run = 0; run < RUNS; run++) {
                new ModelTests(run).mix(run);
            }
        });
        Check.test("model: texts of commands", () -> {
            for (int run = 0; run < RUNS; run++) {
                new ModelTests(run + 7777).typeAndRun(run);
            }
        });
    }

    private void mix(int run) {
        wide = run % 3 == 0;
        int traders = next(9);
        for (int trader = 0; trader < traders; trader++) {
            compare(run, "addTrader", next(2), 1 + next(99), 0);
        }
        for (int call = 0; call < CALLS; call++) {
            String name = choose();
            compare(run, name, first(name), second(name), next(20) == 0 ? next(60) - 3 : 1 + next(9));
        }
        compare(run, "digest", 0, 0, 0);
    }

    private void typeAndRun(int run) {
        StringBuilder text = new StringBuilder();
        int pieces = next(12);
        for (int piece = 0; piece < pieces; piece++) {
            int choices = next(4) == 0 ? PIECES.length : 17;
            text.append(" ".repeat(next(3))).append(PIECES[next(choices)]);
            text.append(" ".repeat(next(6) == 0 ? 1 : 0)).append(next(30) == 0 ? "" : ";");
        }
        if (next(4) == 0 && text.length() > 0) {
            text.setCharAt(next(text.length()), (char) next(128));
        }
        for (int index = 0; index < text.length(); index++) {
            compare(run, "type", text.charAt(index), 0, 0);
        }
        for (int times = 0; times < 3; times++) {
            compare(run, "runCommands", 0, 0, 0);
            compare(run, "digest", 0, 0, 0);
        }
        compare(run, "undo", 0, 0, 0);
        compare(run, "digest", 0, 0, 0);
    }

    private String choose() {
        int sum = 0;
        for (int often : OFTEN) {
            sum += often;
        }
        int left = next(sum);
        int index = 0;
        while (left >= OFTEN[index]) {
            left -= OFTEN[index];
            index++;
        }
        return CALLED[index];
    }

    private int first(String name) {
        switch (name) {
            case "addTrader":
            case "set":
                return next(30) == 0 ? next(5) - 2 : next(2);
            case "cancel":
            case "orderOf":
            case "filled":
            case "reason":
            case "goneIn":
                return books.whole(5) - next(22) + 1;
            case "at":
                return next(122);
            case "now":
                return next(8);
            case "whole":
                return next(14) - 1;
            case "trade":
                return next(6) - 1;
            case "type":
                return next(140) - 5;
            default:
                return next(30) == 0 ? next(11) - 1 : next(Math.max(1, books.whole(0)));
        }
    }

    private int second(String name) {
        switch (name) {
            case "addTrader":
            case "setValue":
                return next(15) == 0 ? next(104) - 2 : wide ? 1 + next(99) : 30 + next(45);
            case "setShade":
                return next(20) == 0 ? next(7) - 1 : next(4);
            case "order":
            case "gainWith":
                return next(15) == 0 ? next(124) - 1 : wide ? priceNearAnEnd() : 35 + next(35);
            case "set":
                return next(12) - (next(10) == 0 ? 1 : 0);
            case "trader":
                return next(11);
            case "orderOf":
            case "trade":
                return next(6);
            case "at":
                return next(4);
            default:
                return next(15) == 0 ? next(14) - 2 : 1 + next(9);
        }
    }

    private int priceNearAnEnd() {
        return next(2) == 0 ? 1 + next(3) : 118 + next(3);
    }

    private int next(int bound) {
        seed = seed * 6364136223846793005L + 1442695040888963407L;
        return (int) ((seed >>> 33) % bound);
    }

    private void compare(int run, String name, int a, int b, int c) {
        String due;
        try {
            due = Long.toString(model.call(name, a, b, c));
        } catch (Model.Refused e) {
            due = e.getMessage();
        }
        String got = answer(name, a, b, c);
        if (!due.equals(got)) {
            Check.fault("run " + run + ": " + name + "(" + a + ", " + b + ", " + c + ") answered " + got + ", due is " + due);
        }
    }

    private String answer(String name, int a, int b, int c) {
        try {
            return Long.toString(call(name, a, b, c));
        } catch (RuntimeException e) {
            if (e.getClass() == IndexOutOfBoundsException.class) {
                return "IOOBE";
            }
            if (e.getClass() == IllegalArgumentException.class) {
                return "IAE";
            }
            return e.getClass() == IllegalStateException.class ? "ISE" : e.toString();
        }
    }

    private long call(String name, int a, int b, int c) {
        switch (name) {
            case "addTrader": return books.addTrader(a, b);
            case "setValue": return books.setValue(a, b);
            case "setShade": return books.setShade(a, b, c);
            case "set": return books.set(a, b);
            case "bid": return books.bid(a, b);
            case "order": return books.order(a, b, c);
            case "cancel": return books.cancel(a);
            case "clear": return books.clear();
            case "trader": return books.trader(a, b);
            case "orderOf": return books.orderOf(a, b);
            case "trade": return books.trade(a, b);
            case "at": return books.at(a, b);
            case "now": return books.now(a);
            case "whole": return books.whole(a);
            case "filled": return books.filled(a);
            case "reason": return books.reason(a);
            case "gainWith": return books.gainWith(a, b);
            case "bestShade": return books.bestShade(a);
            case "bestSplit": return books.bestSplit(a);
            case "goneIn": return books.goneIn(a);
            case "type": return books.type(a);
            case "clearCommands": return books.clearCommands();
            case "runCommands": return books.runCommands();
            case "undo": return books.undo();
            default: return books.digest();
        }
    }
}
