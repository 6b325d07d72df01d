/** Texts of commands: for each sentence that names an edge, a test of its own. */
final class TextEdges {
    private static final String[] WORDS = {"buyer", "seller", "shade", "bid", "order", "cancel", "set", "clear"};
    private static final int[] NUMBERS = {1, 1, 3, 2, 3, 1, 2, 0};
    /** Traders 0 and 1 and the orders 0 to 3, so that each word can be carried out with small numbers. */
    private static final Twins.Past READY = books -> {
        books.addTrader(0, 60);
        books.addTrader(1, 30);
        for (int order = 0; order < 4; order++) {
            books.order(order % 2, order % 2 == 0 ? 20 : 90, 1);
        }
    };

    private TextEdges() {
    }

    static void run() {
        runTexts();
        runFaults();
        runRuns();
    }

    private static void runTexts() {
        Check.test("edge: at most 150 bytes", TextEdges::fullText);
        Check.test("edge: an empty text, or spaces alone, has no fault", TextEdges::emptyText);
        Check.test("edge: each word with just its numbers", TextEdges::justItsNumbers);
        Check.test("edge: numbers of one to three digits, zeros in front", TextEdges::digits);
        Check.test("edge: a fourth digit cannot stand", TextEdges::fourthDigit);
        Check.test("edge: at least one space in front of a number", TextEdges::spaceInFront);
        Check.test("edge: spaces in front of a command, of a semicolon, at the end", TextEdges::spaces);
    }

    private static void runFaults() {
        Check.test("edge: the text ends too soon", TextEdges::endsTooSoon);
        Check.test("edge: the first byte that cannot stand, at the start", TextEdges::byteAtStart);
        Check.test("edge: the first byte that cannot stand, behind a word", TextEdges::byteBehindWord);
        Check.test("edge: the first byte that cannot stand, for a digit", TextEdges::byteForDigit);
        Check.test("edge: the first byte that cannot stand, behind a digit", TextEdges::byteBehindDigit);
        Check.test("edge: the first byte that cannot stand, behind a command", TextEdges::byteBehindCommand);
        Check.test("edge: a word that is not one of these", TextEdges::wrongWords);
        Check.test("edge: the first fault counts", TextEdges::firstFault);
        Check.test("edge: a number out of its range is no fault", TextEdges::outOfRange);
    }

    private static void runRuns() {
        Check.test("edge: a command is its call, at the ends of its numbers", TextEdges::commandIsCall);
        Check.test("edge: with a fault nothing is done", TextEdges::nothingIsDone);
        Check.test("edge: until one of them would throw", TextEdges::untilOneThrows);
        Check.test("edge: the first one would throw", TextEdges::firstThrows);
        Check.test("edge: the most commands of a text", TextEdges::mostCommands);
        Check.test("edge: a run saves one state, also if nothing is carried out", TextEdges::oneState);
        Check.test("edge: the text stays as it is", TextEdges::textStays);
        Check.test("edge: the text is emptied and filled again", TextEdges::filledAgain);
        Check.test("edge: the farthest round of 512 calls", TextEdges::farthestRound);
    }

    private static void runs(int due, String text) {
        ShadedBooks books = Twins.born(READY);
        CommandTests.type(books, text);
        int got = books.runCommands();
        if (got != due) {
            Check.fault("\"" + text + "\" answered " + got + ", due is " + due);
        }
    }

    private static void faultIs(int due, String text) {
        Twins.leave(-10 - due, books -> {
            READY.leadTo(books);
            CommandTests.type(books, text);
        }, ShadedBooks::runCommands);
    }

    // ---- texts

    private static void fullText() {
        String spaces = " ".repeat(142);
        runs(1, "set 0 1" + spaces + ";");
        runs(1, spaces + "set 0 1;");
        runs(1, "set 0 1;" + spaces);
        runs(0, " ".repeat(150));
        faultIs(149, "set 0 1" + spaces + "1");
        faultIs(150, "set 0 1" + spaces + " ");
        faultIs(149, "set 0 1;" + " ".repeat(141) + "x");
        faultIs(145, "set 0 1;" + " ".repeat(137) + "clea;");
        Twins.refuse(IllegalStateException.class, Scenes::written, books -> books.type(';'));
    }

    private static void emptyText() {
        runs(0, "");
        runs(0, " ");
        runs(0, "  ");
        ShadedBooks books = new ShadedBooks();
        Check.is(0, books.runCommands());
        Check.is(1, books.type(' '));
        Check.is(0, books.runCommands());
        Check.is(1, books.undo());
    }

    private static void justItsNumbers() {
        for (int word = 0; word < WORDS.length; word++) {
            for (int numbers = 0; numbers <= 4; numbers++) {
                String text = WORDS[word] + " 1".repeat(numbers);
                if (numbers == NUMBERS[word]) {
                    runs(1, text + ";");
                } else if (numbers < NUMBERS[word]) {
                    faultIs(text.length(), text + ";");
                } else {
                    faultIs(WORDS[word].length() + 2 * NUMBERS[word] + 1, text + ";");
                }
            }
        }
    }

    private static void digits() {
        String[] nines = {"9", "09", "009"};
        for (String nine : nines) {
            ShadedBooks books = new ShadedBooks();
            CommandTests.type(books, "buyer " + nine + ";bid 0 " + nine + ";order 000 " + nine + " " + nine + ";");
            Check.is(3, books.runCommands());
            Check.is(9, books.trader(0, 1));
            Check.is(9, books.orderOf(0, 2));
            Check.is(9, books.orderOf(1, 1));
        }
        ShadedBooks books = new ShadedBooks();
        CommandTests.type(books, "buyer 99;buyer 10;order 1 120 1;order 1 100 1;order 0 012 1;");
        Check.is(5, books.runCommands());
        int[] due = {120, 100, 12};
        for (int order = 0; order < due.length; order++) {
            Check.is(due[order], books.orderOf(order, 1));
        }
    }

    private static void fourthDigit() {
        faultIs(9, "buyer 0001;");
        faultIs(9, "buyer 1234");
        faultIs(9, "buyer 12345;");
        faultIs(7, "bid 0000 1;");
        faultIs(9, "bid 0 1110;");
        faultIs(13, "shade 0 1 0001;");
    }

    private static void spaceInFront() {
        runs(1, "buyer 5;");
        runs(1, "buyer  5;");
        faultIs(5, "buyer5;");
        faultIs(3, "bid0 1;");
        runs(1, "bid 0 1;");
        runs(1, "bid 0   1;");
        faultIs(5, "bid 0;1;");
        faultIs(5, "bid 0,1;");
    }

    private static void spaces() {
        String[] sound = {" clear;", "   clear;", "clear ;", "clear   ;", "clear; ", "clear;   ", "  clear  ;  "};
        for (String text : sound) {
            runs(1, text);
        }
        runs(1, "set 0 1 ;");
        runs(2, "clear; clear;");
        runs(2, "clear;clear;");
        faultIs(0, "c lear;");
        faultIs(6, "clear 5;");
        faultIs(8, "buyer 1 2;");
    }

    // ---- faults

    /** Below each beginning: '.' it has no fault, 'w' its last word is at fault, 'e' it ends too soon. */
    private static void endsTooSoon() {
        String text = " bid 0 09; clear ;shade 1 2 003";
        String due = "..wweeeeee..wwwwee.wwwweeeeeeeee";
        Check.is(text.length() + 1, due.length());
        for (int length = 0; length <= text.length(); length++) {
            String beginning = text.substring(0, length);
            if (due.charAt(length) == '.') {
                runs(length < 10 ? 0 : length < 18 ? 1 : 2, beginning);
            } else {
                faultIs(due.charAt(length) == 'e' ? length : startOfLastWord(beginning), beginning);
            }
        }
    }

    private static int startOfLastWord(String text) {
        int start = text.length();
        while (start > 0 && text.charAt(start - 1) >= 'a') {
            start--;
        }
        return start;
    }

    private static void byteAtStart() {
        for (int value = 0; value <= 127; value++) {
            String text = (char) value + "clear;";
            if (value == ' ') {
                runs(1, text);
            } else {
                faultIs(0, text);
            }
        }
    }

    private static void byteBehindWord() {
        for (int value = 0; value <= 127; value++) {
            String text = "set" + (char) value + " 1 1;";
            if (value == ' ') {
                runs(1, text);
            } else {
                faultIs(value >= 'a' && value <= 'z' ? 0 : 3, text);
            }
        }
    }

    private static void byteForDigit() {
        for (int value = 0; value <= 127; value++) {
            String text = "set 1 " + (char) value + ";";
            if (value >= '1' && value <= '9') {
                ShadedBooks books = new ShadedBooks();
                CommandTests.type(books, text);
                Check.is(1, books.runCommands());
                Check.is(value - '0', books.whole(4));
            } else if (value == '0') {
                runs(0, text);
            } else {
                faultIs(value == ' ' ? 7 : 6, text);
            }
        }
    }

    private static void byteBehindDigit() {
        for (int value = 0; value <= 127; value++) {
            String text = "bid 0 1" + (char) value + ";";
            if (value == ' ') {
                runs(1, text);
            } else if (value >= '0' && value <= '9') {
                runs(0, text);
            } else {
                faultIs(value == ';' ? 8 : 7, text);
            }
        }
    }

    private static void byteBehindCommand() {
        for (int value = 0; value <= 127; value++) {
            String text = "clear;" + (char) value;
            if (value == ' ') {
                runs(1, text);
            } else {
                faultIs(6, text);
            }
        }
    }

    private static void wrongWords() {
        for (int word = 0; word < WORDS.length; word++) {
            String right = WORDS[word];
            String numbers = " 1".repeat(NUMBERS[word]) + ";";
            String[] wrong = {right.substring(0, right.length() - 1), right.substring(1), right + "s", "x" + right,
                right.substring(0, right.length() - 1) + "z", "z" + right.substring(1), right + right};
            for (String text : wrong) {
                faultIs(0, text + numbers);
                faultIs(0, text);
                faultIs(8, "clear;  " + text + numbers);
                faultIs(8, "clear;  " + text + "!");
            }
            faultIs(0, Character.toUpperCase(right.charAt(0)) + right.substring(1) + numbers);
            faultIs(right.length(), right + "S" + numbers);
        }
        String[] others = {"a", "z", "trader", "undo", "type", "now", "value", "at", "whole"};
        for (String text : others) {
            faultIs(0, text + " 1;");
        }
    }

    private static void firstFault() {
        faultIs(0, "buyr 1234;!");
        faultIs(9, "buyer 1234;buyr 1;");
        faultIs(6, "clear;;;");
        faultIs(7, "clear; ;");
        faultIs(15, "clear;clear;set");
        faultIs(6, "buyer clear;!");
        faultIs(6, "bid 0 clear;!");
        faultIs(8, "buyer 1 clear;!");
        faultIs(5, "buyer!clear;!");
    }

    private static void outOfRange() {
        String[] texts = {"buyer 0;", "buyer 100;", "buyer 999;", "seller 0;", "seller 100;", "shade 2 0 0;", "shade 0 4 0;",
            "shade 0 0 51;", "bid 2 1;", "bid 0 0;", "bid 0 10;", "order 2 1 1;", "order 0 0 1;", "order 0 121 1;",
            "order 0 1 0;", "order 0 1 10;", "cancel 4;", "cancel 999;", "set 2 1;", "set 0 11;", "set 1 0;", "set 1 10;"};
        for (String text : texts) {
            runs(0, text);
            runs(1, "clear;" + text + "clear;");
        }
        String[] edges = {"buyer 1;", "buyer 99;", "seller 1;", "seller 99;", "shade 1 3 50;", "shade 0 0 0;", "bid 1 9;", "bid 0 1;",
            "order 1 120 9;", "order 0 1 1;", "cancel 0;", "cancel 3;", "set 0 10;", "set 0 0;", "set 1 9;", "set 1 1;"};
        for (String text : edges) {
            runs(2, text + "clear;");
        }
    }

    // ---- runs

    private static void commandIsCall() {
        does("buyer 1;", books -> books.addTrader(0, 1));
        does("buyer 99;", books -> books.addTrader(0, 99));
        does("seller 1;", books -> books.addTrader(1, 1));
        does("seller 99;", books -> books.addTrader(1, 99));
        does("shade 0 0 50;", books -> books.setShade(0, 0, 50));
        does("shade 1 3 2;", books -> books.setShade(1, 3, 2));
        does("shade 1 2 50;", books -> books.setShade(1, 2, 50));
        does("bid 0 9;", books -> books.bid(0, 9));
        does("bid 1 1;", books -> books.bid(1, 1));
        does("order 0 120 1;", books -> books.order(0, 120, 1));
        does("order 1 1 9;", books -> books.order(1, 1, 9));
        does("cancel 0;", books -> books.cancel(0));
        does("cancel 3;", books -> books.cancel(3));
        does("set 0 0;", books -> books.set(0, 0));
        does("set 0 10;", books -> books.set(0, 10));
        does("set 1 1;", books -> books.set(1, 1));
        does("set 1 9;", books -> books.set(1, 9));
        does("clear;", ShadedBooks::clear);
    }

    /** The command alone leads where its call leads, and saves as it does. */
    private static void does(String text, Twins.Call call) {
        Twins.Past past = books -> {
            READY.leadTo(books);
            books.order(0, 50, 3);
            books.order(1, 40, 1);
            CommandTests.type(books, text);
        };
        ShadedBooks called = Twins.born(past);
        call.answerOf(called);
        ShadedBooks commanded = Twins.born(past);
        Check.is(1, commanded.runCommands());
        Check.are(Twins.portrait(called), Twins.portrait(commanded));
    }

    private static void nothingIsDone() {
        faultIs(24, "clear;buyer 5;bid 0 1;  !");
        faultIs(16, "cancel 0;clear; ;");
        Twins.leave(-20, books -> {
            Scenes.busy(books);
            CommandTests.type(books, "clea;");
            Check.is(19, books.whole(11));
            books.clearCommands();
            CommandTests.type(books, "set 0 1;  clea;");
        }, ShadedBooks::runCommands);
    }

    private static void untilOneThrows() {
        ShadedBooks books = new ShadedBooks();
        CommandTests.type(books, "buyer 60;seller 30;bid 0 2;bid 1 1;clear;set 0 11;set 0 1;clear;");
        Check.is(5, books.runCommands());
        TraderAndOrderTests.wholeIs(books, 2, 1, 1, 5, 3, 2, 1, 30, 45, 1, 0);
        Check.is(0, books.undo());
        TraderAndOrderTests.wholeIs(books, 0, 0, 0, 5, 3, 0, 0, 0, ShadedBooks.NONE, 0, 0);
    }

    private static void firstThrows() {
        ShadedBooks books = Twins.born(Scenes::full);
        CommandTests.type(books, "bid 0 1;cancel 0;bid 0 1;");
        Check.is(0, books.runCommands());
        Check.is(20, books.whole(1));
        books.clearCommands();
        CommandTests.type(books, "cancel 0;bid 0 1;order 1 90 1;cancel 1;");
        Check.is(2, books.runCommands());
        Check.is(21, books.whole(5));
        ShadedBooks crowd = Twins.born(Scenes::crowd);
        CommandTests.type(crowd, "seller 5;clear;");
        Check.is(0, crowd.runCommands());
        Check.is(0, crowd.whole(2));
        ShadedBooks late = Twins.born(Scenes::late);
        CommandTests.type(late, "cancel 0;clear;cancel 1;");
        Check.is(1, late.runCommands());
        Check.is(9999, late.whole(2));
        Check.is(1, late.whole(1));
    }

    private static void mostCommands() {
        ShadedBooks books = Twins.born(Scenes::written);
        Check.is(150, books.whole(11));
        Check.is(25, books.runCommands());
        Check.is(25, books.whole(2));
    }

    private static void oneState() {
        String[] texts = {"", " ", "set 0 1;", "set 0 1;set 0 2;set 0 3;set 0 4;set 0 5;", "cancel 9;set 0 1;"};
        for (String text : texts) {
            ShadedBooks books = new ShadedBooks();
            CommandTests.type(books, text);
            long fresh = books.digest();
            books.runCommands();
            Check.is(0, books.undo());
            Check.is(fresh, books.digest());
            for (int split = 0; split < 4; split++) {
                books.set(0, split);
            }
            books.runCommands();
            for (int left = 3; left >= 0; left--) {
                Check.is(left, books.undo());
                Check.is(left, books.whole(3));
            }
        }
    }

    private static void textStays() {
        ShadedBooks books = new ShadedBooks();
        CommandTests.type(books, "buyer 9;");
        for (int runs = 1; runs <= 8; runs++) {
            Check.is(1, books.runCommands());
            Check.is(runs, books.whole(0));
            Check.is(8, books.whole(11));
        }
        Check.is(0, books.runCommands());
        Check.is(8, books.whole(11));
        books.type('!');
        Check.is(-18, books.runCommands());
        Check.is(9, books.whole(11));
        Check.is(-18, books.runCommands());
    }

    private static void filledAgain() {
        ShadedBooks books = Twins.born(Scenes::written);
        Check.is(150, books.clearCommands());
        Check.is(0, books.runCommands());
        Check.is(0, books.whole(2));
        Check.is(1, books.type('s'));
        Check.is(-10, books.runCommands());
        CommandTests.type(books, "et 0 1");
        Check.is(-17, books.runCommands());
        Check.is(8, books.type(';'));
        Check.is(1, books.runCommands());
        Check.is(8, books.clearCommands());
        for (int length = 1; length <= 150; length++) {
            Check.is(length, books.type(' '));
        }
    }

    /** With 150 calls of type, and one that tells the round, 361 of runCommands are left. */
    private static void farthestRound() {
        ShadedBooks books = new ShadedBooks();
        CommandTests.type(books, "clear;".repeat(25));
        for (int runs = 0; runs < 361; runs++) {
            Check.is(25, books.runCommands());
        }
        Check.is(9025, books.whole(2));
    }
}
