import java.math.BigInteger;
import java.util.ArrayList;
import java.util.Arrays;
import java.util.List;
import java.util.regex.Matcher;
import java.util.regex.Pattern;

/** A second writing of the document, as plain as can be and slow: what the class answers is held against it. */
final class Model {
    /** A call by its name, with its numbers. */
    record Call(String name, int... args) {
        @Override public String toString() {
            return name + Arrays.toString(args);
        }
    }

    private static final class Vessel {
        int hold, licence, risk, seed, own, port, to, when, voyages;
        boolean atSea, lost, doomed;
        final int[] cargo = new int[4];

        int room() {
            return hold - own - cargo[1] - cargo[2] - cargo[3];
        }
    }

    private record Letter(int port, int number, int comes) { }

    private record Test(String what, char sign, int number) { }

    private record Line(List<Test> tests, String act, int good, int number) { }

    private record Token(String text, int place) { }

    private static final List<String> GOODS = List.of("coin", "pepper", "cloth", "silk");
    private static final BigInteger[] NOTHING = {BigInteger.ZERO, BigInteger.ONE};

    /** All calls since the beginning: an image is a copy of this list, and going back is doing them again. */
    private List<Call> log = new ArrayList<>();
    private final List<List<Call>> images = new ArrayList<>(Arrays.asList(null, null, null));

    private int month;
    private String tape;
    private int fault;
    private int place;
    private int[][] stores;
    private int[][] bases, prices, bought, sold;
    private List<Vessel> ships;
    private List<Letter> letters;
    private int[] lastLetter, held;
    private List<List<Line>> orders;
    private int[] shares;
    private boolean divided;
    private int[][] got;
    /** By person and good, a fraction: over and under. */
    private BigInteger[][][] dues;
    private int[] carried;
    private List<int[][]> notes;
    private long[][] sums;

    Model() {
        begin();
    }

    private void begin() {
        month = 0;
        tape = "";
        fault = 0;
        place = -1;
        stores = new int[5][4];
        bases = new int[5][4];
        prices = new int[5][4];
        for (int p = 0; p < 5; p++) {
            Arrays.fill(bases[p], 10);
            Arrays.fill(prices[p], 10);
        }
        bought = new int[5][4];
        sold = new int[5][4];
        ships = new ArrayList<>();
        letters = new ArrayList<>();
        lastLetter = new int[5];
        held = new int[] {-1, -1, -1, -1, -1};
        orders = new ArrayList<>();
        for (int p = 0; p < 5; p++) {
            orders.add(List.of());
        }
        shares = new int[10];
        divided = false;
        got = new int[10][4];
        dues = new BigInteger[10][4][];
        for (BigInteger[][] row : dues) {
            Arrays.fill(row, NOTHING);
        }
        carried = new int[4];
        notes = new ArrayList<>();
        sums = new long[4][7];
    }

    long answer(Call call) {
        int k = call.args.length > 0 ? call.args[0] : 0;
        if (call.name.equals("image")) {
            if (k < 0 || k > 2) {
                return 0;
            }
            images.set(k, new ArrayList<>(log));
            return 1;
        }
        if (call.name.equals("again")) {
            if (k < 0 || k > 2 || images.get(k) == null) {
                return 0;
            }
            begin();
            log = new ArrayList<>(images.get(k));
            for (Call earlier : log) {
                change(earlier);
            }
            return 1;
        }
        log.add(call);
        return change(call);
    }

    private long change(Call call) {
        int[] a = call.args;
        switch (call.name) {
            case "feed": return feed(a);
            case "end": return a[0] < 0 || a[0] > tape.length() ? -1 : cut(a[0]);
            case "orders": return instruct(a[0]);
            case "fault": return a[0] == 0 ? fault : a[0] == 1 ? place : -1;
            case "market": return setMarket(a[0], a[1], a[2]);
            case "ship": return build(a[0], a[1], a[2], a[3]);
            case "letter": return post(a[0], a[1]);
            case "subscribe": return payIn(a[0], a[1]);
            case "transfer": return handOver(a[0], a[1], a[2]);
            case "shares": return person(a[0]) ? shares[a[0]] : -1;
            case "load": return load(a[0], a[1], a[2]);
            case "unload": return unload(a[0]);
            case "sail": return sail(a[0], a[1]);
            case "months": return pass(a[0]);
            case "store": return port(a[0]) && good(a[1]) ? stores[a[0]][a[1]] : -1;
            case "price": return a[0] > 0 && port(a[0]) && a[1] > 0 && good(a[1]) ? prices[a[0]][a[1]] : -1;
            case "tell": return tell(a[0], a[1]);
            case "factor": return factor(a[0], a[1]);
            case "known": return port(a[0]) && good(a[1]) ? note(a[0], a[1], notes.size() - 1 - 3 * a[0]) : -1;
            case "noted": return port(a[0]) && good(a[1]) ? note(a[0], a[1], a[2]) : -1;
            case "sum": return sum(a[0], a[1]);
            case "divide": return divide(a[0], a[1]);
            case "got": return person(a[0]) && good(a[1]) ? got[a[0]][a[1]] : -1;
            case "carried": return good(a[0]) ? carried[a[0]] : -1;
            case "count": return count(a[0]);
            default: throw new IllegalArgumentException(call.name);
        }
    }

    private static boolean port(int p) {
        return p >= 0 && p <= 4;
    }

    private static boolean good(int g) {
        return g >= 0 && g <= 3;
    }

    private static boolean person(int p) {
        return p >= 0 && p <= 9;
    }

    private long feed(int[] numbers) {
        if (tape.length() > 480) {
            return -1;
        }
        StringBuilder more = new StringBuilder(tape);
        for (int number : numbers) {
            for (int i = 3; i >= 0; i--) {
                more.append((char) ((number >>> (8 * i)) & 255));
            }
        }
        tape = more.toString();
        return tape.length();
    }

    private long cut(int n) {
        tape = tape.substring(0, n);
        return n;
    }

    // ---- the text

    private static final Pattern TOKEN = Pattern.compile("[a-z]+|[0-9]+|[:;<>=]");

    private static final class Stop extends Exception {
        private static final long serialVersionUID = 1;
        final int at;

        Stop(int at) {
            this.at = at;
        }
    }

    private List<Token> tokens;
    private int next;
    private List<int[]> marks;

    private long instruct(int port) {
        if (port < 1 || port > 4) {
            return -2;
        }
        String text = tape;
        tape = "";
        fault = 0;
        place = -1;
        marks = new ArrayList<>();
        List<Line> lines = new ArrayList<>();
        try {
            split(text);
            while (!tokens.get(next).text.isEmpty()) {
                if (lines.size() == 16) {
                    marks.add(new int[] {tokens.get(next).place, 3});
                }
                lines.add(line());
            }
        } catch (Stop stop) {
            fault = 1;
            place = stop.at;
            return -1;
        }
        marks.sort((x, y) -> Integer.compare(x[0], y[0]));
        if (!marks.isEmpty()) {
            fault = marks.get(0)[1];
            place = marks.get(0)[0];
            return -1;
        }
        orders.set(port, lines);
        return lines.size();
    }

    /** A byte that begins no token becomes a token that fits nowhere; the end is an empty one. */
    private void split(String text) {
        tokens = new ArrayList<>();
        next = 0;
        Matcher matcher = TOKEN.matcher(text);
        int i = 0;
        while (i < text.length()) {
            char c = text.charAt(i);
            if (c == 10 || c == 32) {
                i++;
            } else if (matcher.find(i) && matcher.start() == i) {
                tokens.add(new Token(matcher.group(), i));
                i = matcher.end();
            } else {
                tokens.add(new Token("?", i));
                i++;
            }
        }
        tokens.add(new Token("", text.length()));
    }

    private String must(String pattern) throws Stop {
        Token token = tokens.get(next);
        if (!token.text.matches(pattern)) {
            throw new Stop(token.place);
        }
        next++;
        return token.text;
    }

    private boolean may(String word) {
        if (tokens.get(next).text.equals(word)) {
            next++;
            return true;
        }
        return false;
    }

    private Line line() throws Stop {
        List<Test> tests = new ArrayList<>();
        if (may("if")) {
            do {
                if (tests.size() == 4) {
                    marks.add(new int[] {tokens.get(next).place, 3});
                }
                tests.add(test());
            } while (may("and"));
            must(":");
        }
        String act = must("buy|sell|load|pay|unload|sail|wait");
        int good = 0;
        int number = 0;
        if (act.matches("buy|sell|load")) {
            good = GOODS.indexOf(must("pepper|cloth|silk"));
        }
        if (act.matches("buy|sell|load|pay|sail")) {
            int at = tokens.get(next).place;
            number = Integer.parseInt(must("[0-9]{1,5}"));
            if (act.equals("sail") && number > 4) {
                marks.add(new int[] {at, 2});
            }
        }
        must(";");
        return new Line(tests, act, good, number);
    }

    private Test test() throws Stop {
        String what = must("month|letter|ships|room|coin|pepper|cloth|silk|price");
        if (what.equals("price")) {
            what = "price " + must("pepper|cloth|silk");
        }
        char sign = must("[<>=]").charAt(0);
        return new Test(what, sign, Integer.parseInt(must("[0-9]{1,5}")));
    }

    // ---- calls at home

    private long setMarket(int port, int good, int base) {
        if (port < 1 || port > 4 || good < 1 || good > 3 || base < 1 || base > 1000) {
            return 0;
        }
        bases[port][good] = base;
        prices[port][good] = base;
        return 1;
    }

    private long build(int hold, int licence, int risk, int seed) {
        if (ships.size() == 4 || hold < 1 || hold > 500 || licence < 0 || licence > 50 || risk < 0 || risk > 99) {
            return -1;
        }
        Vessel ship = new Vessel();
        ship.hold = hold;
        ship.licence = licence;
        ship.risk = risk;
        ship.seed = seed;
        ships.add(ship);
        return ships.size() - 1;
    }

    private long post(int port, int number) {
        if (port < 1 || port > 4 || number < 1 || number > 9999) {
            return -1;
        }
        letters.add(new Letter(port, number, month + 3 * port));
        return month + 3 * port;
    }

    private int allShares() {
        return Arrays.stream(shares).sum();
    }

    private long payIn(int person, int n) {
        if (!person(person) || n < 1 || (long) allShares() + n > 1000 || divided) {
            return -1;
        }
        shares[person] += n;
        stores[0][0] += 100 * n;
        sums[0][0] += 100 * n;
        return shares[person];
    }

    private long handOver(int from, int to, int n) {
        if (!person(from) || !person(to) || from == to || n < 1 || shares[from] < n) {
            return 0;
        }
        shares[from] -= n;
        shares[to] += n;
        return 1;
    }

    private Vessel atHome(int number) {
        if (number < 0 || number >= ships.size()) {
            return null;
        }
        Vessel ship = ships.get(number);
        return here(ship, 0) ? ship : null;
    }

    private static boolean here(Vessel ship, int port) {
        return !ship.atSea && !ship.lost && ship.port == port;
    }

    private long load(int number, int good, int n) {
        Vessel ship = atHome(number);
        if (ship == null || !good(good) || n < 1 || n > stores[0][good] - carried[good] || good > 0 && n > ship.room()) {
            return -1;
        }
        stores[0][good] -= n;
        ship.cargo[good] += n;
        return ship.cargo[good];
    }

    private long unload(int number) {
        Vessel ship = atHome(number);
        if (ship == null) {
            return -1;
        }
        long bales = ship.cargo[1] + ship.cargo[2] + ship.cargo[3];
        empty(ship, 0);
        sums[1][6] += ship.own;
        ship.own = 0;
        return bales;
    }

    private void empty(Vessel ship, int port) {
        for (int g = 0; g < 4; g++) {
            stores[port][g] += ship.cargo[g];
            ship.cargo[g] = 0;
        }
    }

    private boolean wind(int from, int to) {
        boolean out = List.of(9, 10, 11, 0, 1, 2).contains(month % 12);
        return to > from && out || to < from && !out;
    }

    private void go(Vessel ship, int to) {
        ship.to = to;
        ship.when = month + 2 * Math.abs(to - ship.port);
        ship.atSea = true;
        ship.voyages++;
        long next = (1103515245L * (ship.seed & 0xffffffffL) + 12345) & 0xffffffffL;
        ship.seed = (int) next;
        ship.doomed = (next >> 16) % 100 < ship.risk;
    }

    private long sail(int number, int port) {
        Vessel ship = atHome(number);
        if (ship == null || port < 1 || port > 4 || !wind(0, port)) {
            return -1;
        }
        go(ship, port);
        return ship.when;
    }

    private long tell(int number, int what) {
        if (number < 0 || number >= ships.size()) {
            return -9;
        }
        Vessel ship = ships.get(number);
        switch (what) {
            case 0: return ship.lost ? -2 : ship.atSea ? -1 : ship.port;
            case 1: return ship.atSea ? ship.to : -1;
            case 2: return ship.atSea ? ship.when : -1;
            case 3: return ship.room();
            case 4: return ship.own;
            case 5: return ship.voyages;
            default: return what >= 10 && what <= 13 ? ship.cargo[what - 10] : -9;
        }
    }

    private long factor(int port, int what) {
        if (port < 1 || port > 4) {
            return -1;
        }
        return what == 0 ? orders.get(port).size() : what == 1 ? held[port] : what == 2 ? lastLetter[port] : -1;
    }

    private long note(int port, int good, int of) {
        return of < 0 || of >= notes.size() ? -1 : notes.get(of)[port][good];
    }

    private long sum(int good, int what) {
        if (!good(good) || what < 0 || what > 6) {
            return -1;
        }
        if (what == 1) {
            return Arrays.stream(stores).mapToLong(s -> s[good]).sum();
        }
        if (what == 2) {
            return ships.stream().mapToLong(s -> s.cargo[good] + (good == 1 ? s.own : 0)).sum();
        }
        return sums[good][what];
    }

    private long count(int what) {
        switch (what) {
            case 0: return month;
            case 1: return ships.size();
            case 2: return allShares();
            case 3: return ships.stream().filter(s -> s.lost).count();
            default: return -1;
        }
    }

    private long divide(int good, int n) {
        int all = allShares();
        if (!good(good) || all == 0 || n < 1 || n > stores[0][good] - carried[good]) {
            return -1;
        }
        divided = true;
        int given = 0;
        for (int p = 0; p < 10; p++) {
            BigInteger[] old = dues[p][good];
            BigInteger under = BigInteger.valueOf(all);
            BigInteger over = old[0].multiply(under)
                    .add(BigInteger.valueOf(shares[p]).multiply(BigInteger.valueOf(n)).multiply(old[1]));
            under = under.multiply(old[1]);
            int whole = over.divide(under).intValueExact();
            over = over.mod(under);
            BigInteger common = over.gcd(under);
            dues[p][good] = new BigInteger[] {over.divide(common), under.divide(common)};
            got[p][good] += whole;
            given += whole;
        }
        stores[0][good] -= given;
        carried[good] += n - given;
        sums[good][5] += given;
        return given;
    }

    // ---- a month

    private long pass(int n) {
        if (n < 1 || n > 60 || month + n > 600) {
            return -1;
        }
        for (int i = 0; i < n; i++) {
            arrive();
            for (Letter letter : letters) {
                if (letter.comes == month) {
                    lastLetter[letter.port] = letter.number;
                }
            }
            for (int p = 1; p < 5; p++) {
                act(p);
            }
            for (int p = 1; p < 5; p++) {
                for (int g = 1; g < 4; g++) {
                    prices[p][g] += prices[p][g] < bases[p][g] ? 1 : prices[p][g] > bases[p][g] ? -1 : 0;
                }
            }
            int[][] copy = new int[5][];
            for (int p = 0; p < 5; p++) {
                copy[p] = stores[p].clone();
            }
            notes.add(copy);
            month++;
        }
        return month;
    }

    private void arrive() {
        for (Vessel ship : ships) {
            if (!ship.atSea || ship.when != month) {
                continue;
            }
            ship.atSea = false;
            ship.port = ship.to;
            if (ship.doomed) {
                ship.lost = true;
                for (int g = 0; g < 4; g++) {
                    sums[g][4] += ship.cargo[g];
                    ship.cargo[g] = 0;
                }
                sums[1][4] += ship.own;
                ship.own = 0;
            }
        }
    }

    private void act(int port) {
        List<Vessel> there = ships.stream().filter(s -> here(s, port)).toList();
        held[port] = -1;
        List<Line> lines = orders.get(port);
        for (int i = 0; i < lines.size(); i++) {
            if (lines.get(i).tests.stream().allMatch(t -> holds(t, port, there))) {
                held[port] = i;
                obey(lines.get(i), port, there.isEmpty() ? null : there.get(0));
                return;
            }
        }
    }

    private boolean holds(Test test, int port, List<Vessel> there) {
        int value;
        if (test.what.equals("month")) {
            value = month % 12;
        } else if (test.what.equals("letter")) {
            value = lastLetter[port];
        } else if (test.what.equals("ships")) {
            value = there.size();
        } else if (test.what.equals("room")) {
            value = there.isEmpty() ? 0 : there.get(0).room();
        } else if (test.what.startsWith("price ")) {
            value = prices[port][GOODS.indexOf(test.what.substring(6))];
        } else {
            value = stores[port][GOODS.indexOf(test.what)];
        }
        return test.sign == '<' ? value < test.number : test.sign == '>' ? value > test.number : value == test.number;
    }

    private void buyOne(int port, int good) {
        sums[good][0]++;
        bought[port][good]++;
        if (bought[port][good] % 10 == 0) {
            prices[port][good]++;
        }
    }

    private void sellOne(int port, int good) {
        int price = prices[port][good];
        stores[port][good]--;
        stores[port][0] += price;
        sums[good][3]++;
        sums[0][0] += price;
        sold[port][good]++;
        if (sold[port][good] % 10 == 0) {
            prices[port][good] = Math.max(1, price - 1);
        }
    }

    private void obey(Line line, int port, Vessel ship) {
        int[] store = stores[port];
        int good = line.good;
        switch (line.act) {
            case "buy":
                for (int i = 0; i < line.number && store[0] >= prices[port][good]; i++) {
                    store[0] -= prices[port][good];
                    sums[0][3] += prices[port][good];
                    store[good]++;
                    buyOne(port, good);
                }
                break;
            case "sell":
                for (int i = 0; i < line.number && store[good] > 0; i++) {
                    sellOne(port, good);
                }
                break;
            case "load":
                for (int i = 0; ship != null && i < line.number && store[good] > 0 && ship.room() > 0; i++) {
                    store[good]--;
                    ship.cargo[good]++;
                }
                break;
            case "pay":
                for (int i = 0; ship != null && i < line.number && store[0] > 0; i++) {
                    store[0]--;
                    ship.cargo[0]++;
                }
                break;
            case "unload":
                if (ship != null) {
                    empty(ship, port);
                }
                break;
            case "sail":
                if (ship != null && wind(port, line.number)) {
                    while (ship.own < ship.licence && ship.room() > 0) {
                        ship.own++;
                        buyOne(port, 1);
                    }
                    go(ship, line.number);
                }
                break;
            default:
                break;
        }
    }
}
