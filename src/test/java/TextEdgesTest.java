import java.util.function.Supplier;

/** The edges in the document's Term 2 and promises 2 to 5, a test for each sentence that names one. */
public final class TextEdgesTest {
    private static final Check CHECK = new Check("TextEdgesTest");
    private static final int GOOD = 0;

    private static void due(String what, long got, long want) {
        CHECK.due(what, got, want);
    }

    /** What orders() and both fault()s tell of a text; place counts for a fault alone. */
    private static void text(String text, int fault, int place, int lines) {
        VoyageCompany x = new VoyageCompany();
        String name = "'" + text.replace("\n", "\\n") + "'";
        due("orders of " + name, Check.instruct(x, 3, text), fault == GOOD ? lines : -1);
        due("fault of " + name, x.fault(0), fault);
        due("place of " + name, x.fault(1), fault == GOOD ? -1 : place);
        due("LINES of " + name, x.factor(3, 0), fault == GOOD ? lines : 0);
    }

    private static void good(String text, int lines) {
        text(text, GOOD, -1, lines);
    }

    private static void fault(String text, int fault, int place) {
        text(text, fault, place, 0);
    }

    // ---- promises 2 and 3: the tape

    /** "NONE, and nothing comes, if there would be more than 500." */
    private static void feedUpTo500() {
        int[] lengths = {0, 1, 479, 480, 481, 499, 500};
        for (int length : lengths) {
            VoyageCompany x = new VoyageCompany();
            Check.write(x, " ".repeat(length));
            int blanks = 0x20202020;
            int waits = 0x77616974;
            boolean fits = length + 20 <= 500;
            due("behind " + length, x.feed(waits, 0x3b202020, blanks, blanks, blanks), fits ? length + 20 : -1);
            due("the tape behind " + length, x.end(fits ? length + 20 : length), fits ? length + 20 : length);
            due("and no more", x.end(fits ? length + 21 : length + 1), -1);
            due("what came", x.orders(1), fits ? 1 : 0);
        }
    }

    /** "Twenty bytes .. of each number the highest first" */
    private static void bytesInTheirOrder() {
        VoyageCompany x = new VoyageCompany();
        // "load silk 7;wait  ;" and a blank
        due("feed", x.feed(0x6c6f6164, 0x2073696c, 0x6b20373b, 0x77616974, 0x20203b20), 20);
        due("two lines", x.orders(1), 2);
        due("nineteen of twenty", feedAndCut(0x6c6f6164, 0x2073696c, 0x6b20373b, 0x77616974, 0x20202020, 19), 19);
        for (int at = 0; at < 20; at++) {
            int[] numbers = {0x20202020, 0x20202020, 0x20202020, 0x20202020, 0x20202020};
            numbers[at / 4] ^= (0x20 ^ 0xff) << (24 - 8 * (at % 4));
            VoyageCompany y = new VoyageCompany();
            y.feed(numbers[0], numbers[1], numbers[2], numbers[3], numbers[4]);
            due("byte 255 at " + at, y.orders(2), -1);
            due("its fault", y.fault(0), 1);
            due("its place", y.fault(1), at);
        }
    }

    private static int feedAndCut(int a, int b, int c, int d, int e, int n) {
        VoyageCompany x = new VoyageCompany();
        x.feed(a, b, c, d, e);
        int end = x.end(n);
        x.orders(1);
        return x.fault(1) == n ? end : -5;
    }

    /** "The tape has its first n bytes alone: n. NONE if it has not so many, or n is below 0." */
    private static void endCuts() {
        VoyageCompany x = new VoyageCompany();
        due("0 of none", x.end(0), 0);
        due("1 of none", x.end(1), -1);
        due("-1 of none", x.end(-1), -1);
        Check.write(x, "wait;wait;");
        due("11 of 10", x.end(11), -1);
        due("max of 10", x.end(Integer.MAX_VALUE), -1);
        due("min of 10", x.end(Integer.MIN_VALUE), -1);
        due("-1 of 10", x.end(-1), -1);
        due("10 of 10", x.end(10), 10);
        due("9 of 10", x.end(9), 9);
        due("10 of 9", x.end(10), -1);
        due("5 of 9", x.end(5), 5);
        due("behind the fifth", x.feed(0x77616974, 0x3b202020, 0x20202020, 0x20202020, 0x20202020), 25);
        due("two lines", x.orders(1), 2);
        Check.write(x, "wait;");
        due("0 of 5", x.end(0), 0);
        due("an empty text", x.orders(1), 0);
    }

    // ---- promises 4 and 5: orders and fault

    /** "-2, and the tape stays: there is no such PORT, or it is HOME." */
    private static void ordersOfPorts() {
        int[] ports = {Integer.MIN_VALUE, -1, 0, 1, 4, 5, Integer.MAX_VALUE};
        for (int port : ports) {
            VoyageCompany x = new VoyageCompany();
            Check.write(x, "wait;");
            boolean is = port >= 1 && port <= 4;
            due("orders(" + port + ")", x.orders(port), is ? 1 : -2);
            due("the tape behind it", x.end(5), is ? -1 : 5);
            due("and taken by another", x.orders(2), is ? 0 : 1);
        }
    }

    /** "The tape is taken": it is empty behind orders() with a FAULT, too, and INSTRUCTIONS stay then. */
    private static void tapeIsTaken() {
        String[] texts = {"wait", "sail 5;", "wait;".repeat(17), "?"};
        for (String text : texts) {
            VoyageCompany x = new VoyageCompany();
            Check.instruct(x, 1, "wait;wait;wait;");
            due("a fault", Check.instruct(x, 1, text), -1);
            due("no tape", x.end(1), -1);
            due("old lines", x.factor(1, 0), 3);
            x.months(1);
            due("old lines hold", x.factor(1, 1), 0);
            due("the empty text behind it", x.orders(1), 0);
            due("no lines", x.factor(1, 0), 0);
        }
    }

    /** "Of the latest orders() (that did not tell -2) .. NONE for another what." */
    private static void faultIsOfTheLatest() {
        VoyageCompany x = new VoyageCompany();
        due("none yet", x.fault(0), 0);
        due("nor a place", x.fault(1), -1);
        due("what -1", x.fault(-1), -1);
        due("what 2", x.fault(2), -1);
        Check.instruct(x, 1, "wait;sail 7;");
        due("fault 2", x.fault(0), 2);
        due("at 10", x.fault(1), 10);
        due("what 2 of it", x.fault(2), -1);
        due("what -1 of it", x.fault(-1), -1);
        Check.write(x, "wait");
        due("no such port", x.orders(0), -2);
        due("fault 2 stays", x.fault(0), 2);
        due("at 10 stays", x.fault(1), 10);
        due("of port 1", x.orders(1), -1);
        due("fault 1", x.fault(0), 1);
        due("at 4", x.fault(1), 4);
        due("none", x.orders(4), 0);
        due("0 without", x.fault(0), 0);
        due("NONE without", x.fault(1), -1);
    }

    // ---- Term 2: tokens

    private static boolean isLetter(int b) {
        return "abcdefghijklmnopqrstuvwxyz".indexOf(b) >= 0;
    }

    private static boolean isDigit(int b) {
        return "0123456789".indexOf(b) >= 0;
    }

    /** "WORDS, rows of letters a .. z", "blanks (10, 32)", "signs : ; < > = one byte each": by each byte that there is. */
    private static void eachByte() {
        for (int b = 0; b < 256; b++) {
            char c = (char) b;
            boolean blank = b == 10 || b == 32;
            text("wait" + c + ";", blank ? GOOD : 1, isLetter(b) ? 0 : c == ';' ? 5 : 4, 1);
            text("pay 1" + c + ";", blank || isDigit(b) ? GOOD : 1, c == ';' ? 6 : 5, 1);
            boolean compares = c == '<' || c == '>' || c == '=';
            text("if coin" + c + "1:wait;", compares ? GOOD : 1, isLetter(b) ? 3 : blank ? 8 : 7, 1);
            text("if coin=1" + c + "wait;", c == ':' ? GOOD : 1, isLetter(b) ? 9 : blank || isDigit(b) ? 10 : 9, 1);
            text(c + "wait;", blank ? GOOD : 1, 0, 1);
        }
    }

    /** "NUMBERS, 1 to 5 digits", "a longer row of digits is no token" */
    private static void numbers() {
        good("pay 0;", 1);
        good("pay 99999;", 1);
        good("pay 00000;", 1);
        fault("pay ;", 1, 4);
        fault("pay 100000;", 1, 4);
        fault("pay 000000;", 1, 4);
        fault("pay 99999999999999999999;", 1, 4);
        good("buy silk 99999;", 1);
        fault("buy silk 100000;", 1, 9);
        good("if coin<99999:wait;", 1);
        fault("if coin<100000:wait;", 1, 8);
        fault("if coin<:wait;", 1, 8);
        good("sail 00004;", 1);
        fault("sail 000004;", 1, 5);
        fault("sail 1 000004;", 1, 7);
        // where no NUMBER may stand, the row of digits is at fault all the same
        fault("100000", 1, 0);
        fault("wait 100000;", 1, 5);
    }

    /** "as long as they go" */
    private static void longestTokens() {
        fault("waitwait;", 1, 0);
        fault("buypepper 1;", 1, 0);
        fault("buy pepperpepper 1;", 1, 4);
        fault("buy pepper 1 1;", 1, 13);
        fault("pay 11111 1;", 1, 10);
        fault("ifcoin=1:wait;", 1, 0);
        fault("if coin=1 andcoin=1:wait;", 1, 10);
        fault("if coin==1:wait;", 1, 8);
        fault("if coin<>1:wait;", 1, 8);
        fault("unl oad;", 1, 0);
        fault("wai t;", 1, 0);
        fault("pay 1\n1;", 1, 6);
        good("if coin=1and coin=1:pay1;", 1);
        good("buy\npepper\n1\n;\n", 1);
    }

    /** Each word of the text, and words that are but nearly one. */
    private static void words() {
        String[] acts = {"buy silk 1", "sell silk 1", "load silk 1", "pay 1", "unload", "sail 1", "wait"};
        String[] whats = {"month", "letter", "ships", "room", "coin", "pepper", "cloth", "silk", "price pepper", "price cloth", "price silk"};
        for (String act : acts) {
            good(act + ";", 1);
            nearlyWord(act, "", ";");
        }
        for (String what : whats) {
            good("if " + what + "=1:wait;", 1);
            nearlyWord(what, "if ", "=1:wait;");
        }
        nearlyWord("if", "", " coin=1:wait;");
        nearlyWord("and", "if coin=1 ", " coin=1:wait;");
        for (String good : new String[] {"pepper", "cloth", "silk"}) {
            nearlyWord(good, "buy ", " 1;");
            nearlyWord(good, "if price ", "=1:wait;");
        }
    }

    /** A word without its first or last letter, with one more, or with one letter another, is none. */
    private static void nearlyWord(String from, String ahead, String behind) {
        String word = from.split(" ")[0];
        String rest = from.substring(word.length()) + behind;
        int place = ahead.length();
        fault(ahead + word.substring(1) + rest, 1, place);
        fault(ahead + word.substring(0, word.length() - 1) + rest, 1, place);
        fault(ahead + word + "s" + rest, 1, place);
        fault(ahead + "x" + word + rest, 1, place);
        for (int i = 0; i < word.length(); i++) {
            fault(ahead + word.substring(0, i) + "q" + word.substring(i + 1) + rest, 1, place);
        }
    }

    // ---- Term 2: the text and its faults

    /** "the end, too": a text that ends ahead of a LINE's end is at fault there. */
    private static void everyBeginning() {
        String whole = "if month=1 and price silk<22:buy pepper 3;sail 0; if room>4:pay 5;wait;";
        for (int n = 0; n <= whole.length(); n++) {
            String text = whole.substring(0, n);
            int lines = text.length() - text.replace(";", "").length();
            boolean ended = text.trim().isEmpty() || text.trim().endsWith(";");
            String last = text.substring(text.lastIndexOf(' ') + 1);
            last = last.substring(Math.max(last.lastIndexOf(';'), last.lastIndexOf(':')) + 1);
            boolean cutWord = !last.isEmpty() && last.chars().allMatch(TextEdgesTest::isLetter)
                    && !" if month and price silk buy pepper sail room pay wait ".contains(" " + last + " ");
            text(text, ended ? GOOD : 1, cutWord ? n - last.length() : n, lines);
        }
    }

    /** "2 'sail' to a PORT that is not 0 .. 4", at the NUMBER. */
    private static void sailToPorts() {
        for (int port = 0; port <= 6; port++) {
            text("sail " + port + ";", port <= 4 ? GOOD : 2, 5, 1);
            text("if coin=0:sail  0" + port + ";", port <= 4 ? GOOD : 2, 16, 1);
        }
        fault("sail 99999;", 2, 5);
        good("pay 5;buy pepper 5;if month=5:wait;", 3);
    }

    private static String tests(int n) {
        return "if room=1" + " and room=1".repeat(n - 1) + ":wait;";
    }

    /** "3 one too many, at its first token: a 17th LINE, a 5th TEST of a LINE" */
    private static void oneTooMany() {
        String wait16 = "wait;".repeat(16);
        good(wait16, 16);
        fault(wait16 + "wait;", 3, 80);
        fault(wait16 + "\n if room=1:wait;", 3, 82);
        good(wait16 + " \n ", 16);
        good(tests(4), 1);
        fault(tests(5), 3, 47);
        fault(tests(6), 3, 47);
        fault("if room=1 and room=1 and room=1 and room=1 and  price silk=1:wait;", 3, 48);
        good("wait;".repeat(15) + tests(4), 16);
        fault("wait;".repeat(15) + tests(5), 3, 75 + 47);
        fault(wait16 + tests(5), 3, 80);
        good(tests(4).repeat(9), 9);
        good(tests(2) + tests(3), 2);
    }

    /** "If there is none, the first of": by their places; and a fault 1, however late, goes ahead of both. */
    private static void firstFault() {
        fault("sail 5;" + tests(5), 2, 5);
        fault(tests(5) + "sail 5;", 3, 47);
        fault("wait;".repeat(15) + "sail 5;wait;", 2, 80);
        fault("wait;".repeat(16) + "sail 5;", 3, 80);
        fault("sail 5;sail 6;", 2, 5);
        fault("if room=1 and room=1 and room=1 and room=1 and room=1:sail 5;", 3, 47);
        fault("sail 5;wait", 1, 11);
        fault("sail 5?;", 1, 6);
        fault("wait;".repeat(17) + "x", 1, 85);
        fault("if room=1 and room=1 and room=1 and room=1 and room=1:", 1, 54);
        fault("if room=1 and room=1 and room=1 and room=1 and ;", 1, 47);
        fault("wait;".repeat(16) + ";", 1, 80);
    }

    /** A text as long as the tape: its end has place 500. */
    private static void fullTape() {
        String text = "wait;".repeat(15) + "load pepper 1";
        String full = text + " ".repeat(499 - text.length()) + ";";
        good(full, 16);
        fault(full.substring(0, 499) + " ", 1, 500);
        fault(full.substring(0, 499) + "?", 1, 499);
        good(" ".repeat(500), 0);
        good("\n".repeat(495) + "wait;", 1);
        fault("q".repeat(500), 1, 0);
        fault("9".repeat(500), 1, 0);
        fault(";".repeat(500), 1, 0);
        fault("pay 1;".repeat(83) + "wa", 1, 498);
        fault("pay 1;".repeat(83) + " ;", 1, 499);
    }

    // ---- Term 2: what the tests tell

    /** Whether a test holds in the month that comes next, at a port. */
    private static boolean holds(VoyageCompany x, int port, String test) {
        Scenes.order(x, port, "if " + test + ":wait;");
        return x.factor(port, 1) == 0;
    }

    /** Each sign against a number just below, the same and just above; prepare makes the same company each time. */
    private static void valueIs(String what, int value, Supplier<VoyageCompany> prepare, int port) {
        for (int number = Math.max(0, value - 1); number <= value + 1; number++) {
            CHECK.due(what + "<" + number, holds(prepare.get(), port, what + "<" + number), value < number);
            CHECK.due(what + "=" + number, holds(prepare.get(), port, what + "=" + number), value == number);
            CHECK.due(what + ">" + number, holds(prepare.get(), port, what + ">" + number), value > number);
        }
    }

    private static VoyageCompany behind(int months) {
        VoyageCompany x = new VoyageCompany();
        if (months > 0) {
            x.months(months);
        }
        return x;
    }

    /** "month: of the year, 0 .. 11" */
    private static void monthOfTheYear() {
        int[] months = {0, 1, 11, 12, 13, 23, 24};
        for (int month : months) {
            valueIs("month", month % 12, () -> behind(month), 1);
        }
    }

    /** "letter: of the last LETTER that came (0 without)" */
    private static void letterThatCame() {
        valueIs("letter", 0, VoyageCompany::new, 1);
        valueIs("letter", 0, () -> {
            VoyageCompany x = new VoyageCompany();
            x.letter(1, 9999);
            x.months(2);
            return x;
        }, 1);
        valueIs("letter", 9999, () -> {
            VoyageCompany x = new VoyageCompany();
            x.letter(1, 9999);
            x.months(3);
            return x;
        }, 1);
    }

    private static VoyageCompany shipsAtPort1(int n) {
        VoyageCompany x = new VoyageCompany();
        for (int i = 0; i < 4; i++) {
            x.ship(20 + i, 0, 0, 1);
        }
        for (int i = 4 - n; i < 4; i++) {
            x.sail(i, 1);
        }
        x.months(2);
        return x;
    }

    /** "ships: how many are at this PORT; room: ROOM of THE SHIP, that of the least number of these (0 without)" */
    private static void shipsAndRoom() {
        for (int n = 0; n <= 4; n++) {
            int ships = n;
            valueIs("ships", n, () -> shipsAtPort1(ships), 1);
            valueIs("room", n == 0 ? 0 : 24 - n, () -> shipsAtPort1(ships), 1);
        }
        valueIs("ships", 0, () -> shipsAtPort1(4), 2);
        valueIs("room", 0, () -> shipsAtPort1(4), 2);
    }

    private static VoyageCompany storeAt2(int coin) {
        VoyageCompany x = Scenes.coinAt(2, coin + 60);
        Scenes.order(x, 2, "buy pepper 1;");
        Scenes.order(x, 2, "buy cloth 2;");
        Scenes.order(x, 2, "buy silk 3;");
        x.market(2, 1, 1);
        x.market(2, 2, 1000);
        x.market(2, 3, 77);
        return x;
    }

    /** "coin, pepper ..: in the STORE; price: the PRICE there" */
    private static void storeAndPrice() {
        valueIs("coin", 40, () -> storeAt2(40), 2);
        valueIs("coin", 99998, () -> Scenes.coinAt(1, 99998), 1);
        valueIs("coin", 0, () -> storeAt2(40), 1);
        valueIs("pepper", 1, () -> storeAt2(40), 2);
        valueIs("cloth", 2, () -> storeAt2(40), 2);
        valueIs("silk", 3, () -> storeAt2(40), 2);
        valueIs("price pepper", 1, () -> storeAt2(40), 2);
        valueIs("price cloth", 1000, () -> storeAt2(40), 2);
        valueIs("price silk", 77, () -> storeAt2(40), 2);
        valueIs("price silk", 10, () -> storeAt2(40), 3);
    }

    /** "'if' TEST {'and' TEST}": all of them must hold, the last of four too. */
    private static void allTestsMustHold() {
        for (int wrong = -1; wrong < 4; wrong++) {
            StringBuilder text = new StringBuilder("if ");
            for (int i = 0; i < 4; i++) {
                text.append(i > 0 ? " and " : "").append(i == wrong ? "coin>0" : "coin=0");
            }
            VoyageCompany x = new VoyageCompany();
            Scenes.order(x, 4, text + ":wait;");
            due("test " + wrong + " does not hold", x.factor(4, 1), wrong == -1 ? 0 : -1);
        }
        VoyageCompany x = new VoyageCompany();
        Scenes.order(x, 4, "if coin>0:wait;".repeat(15) + "if coin=0:wait;");
        due("the sixteenth line holds", x.factor(4, 1), 15);
    }

    public static void main(String[] args) {
        feedUpTo500();
        bytesInTheirOrder();
        endCuts();
        ordersOfPorts();
        tapeIsTaken();
        faultIsOfTheLatest();
        eachByte();
        numbers();
        longestTokens();
        words();
        everyBeginning();
        sailToPorts();
        oneTooMany();
        firstFault();
        fullTape();
        monthOfTheYear();
        letterThatCame();
        shipsAndRoom();
        storeAndPrice();
        allTestsMustHold();
        CHECK.finish();
    }
}
