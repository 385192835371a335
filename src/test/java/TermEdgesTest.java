/** The edges in the document's Terms 1, 3 and 4, a test for each sentence that names one; those of Term 2 are in TextEdgesTest. */
public final class TermEdgesTest {
    private static final Check CHECK = new Check("TermEdgesTest");

    private static void due(String what, long got, long want) {
        CHECK.due(what, got, want);
    }

    private static void due(String what, boolean got, boolean want) {
        CHECK.due(what, got, want);
    }

    // ---- Term 1

    /** "PORTS are 0 (HOME) .. 4"; factors, MARKETS and LETTERS have 1 .. 4. */
    private static void portsAreFive() {
        for (int port = -1; port <= 5; port++) {
            VoyageCompany x = Scenes.company(1);
            x.months(13);
            boolean is = port >= 0 && port <= 4;
            boolean far = port >= 1 && port <= 4;
            due("store at " + port, x.store(port, 1), is ? 0 : -1);
            due("known at " + port, x.known(port, 1), is ? 0 : -1);
            due("noted at " + port, x.noted(port, 1, 0), is ? 0 : -1);
            due("price at " + port, x.price(port, 1), far ? 10 : -1);
            due("market at " + port, x.market(port, 1, 7), far);
            due("factor at " + port, x.factor(port, 0), far ? 0 : -1);
            due("letter to " + port, x.letter(port, 1), far ? 13 + 3 * port : -1);
            due("orders of " + port, x.orders(port), far ? 0 : -2);
            due("sail to " + port, x.sail(0, port), far ? 13 + 2 * port : -1);
        }
    }

    /** "GOODS: 0 COIN, 1 PEPPER, 2 CLOTH, 3 SILK"; MARKETS are of 1 .. 3. */
    private static void goodsAreFour() {
        VoyageCompany x = Scenes.company(1);
        x.months(1);
        for (int good = -1; good <= 4; good++) {
            boolean is = good >= 0 && good <= 3;
            boolean bales = good >= 1 && good <= 3;
            due("store of " + good, x.store(0, good), !is ? -1 : bales ? 0 : 100);
            due("known of " + good, x.known(0, good), !is ? -1 : bales ? 0 : 100);
            due("noted of " + good, x.noted(0, good, 0), !is ? -1 : bales ? 0 : 100);
            due("price of " + good, x.price(4, good), bales ? 10 : -1);
            due("market of " + good, x.market(4, good, 7), bales);
            due("sum of " + good, x.sum(good, 0), !is ? -1 : bales ? 0 : 100);
            due("got of " + good, x.got(0, good), is ? 0 : -1);
            due("carried of " + good, x.carried(good), is ? 0 : -1);
        }
    }

    /** "Months are numbered from 0 on, to 599." */
    private static void monthsEndAt599() {
        VoyageCompany x = new VoyageCompany();
        due("the first month", x.count(0), 0);
        due("month 0 is not over", x.noted(0, 0, 0), -1);
        for (int i = 0; i < 9; i++) {
            x.months(60);
        }
        x.months(59);
        due("the last month comes next", x.count(0), 599);
        due("month 598 is over", x.noted(1, 0, 598), 0);
        due("month 599 is not", x.noted(1, 0, 599), -1);
        due("it goes by", x.months(1), 600);
        due("month 599 is over", x.noted(1, 0, 599), 0);
        due("there is no month 600", x.months(1), -1);
        due("nor a note of it", x.noted(1, 0, 600), -1);
        due("known of HOME is of month 599", x.known(0, 0), 0);
    }

    /** "a BASE, 1 .. 1000 (10 at first), and a PRICE (the BASE, when that is told)" */
    private static void baseAndPrice() {
        VoyageCompany x = new VoyageCompany();
        for (int port = 1; port <= 4; port++) {
            for (int good = 1; good <= 3; good++) {
                due("at first", x.price(port, good), 10);
                due("0", x.market(port, good, 0), false);
                due("1001", x.market(port, good, 1001), false);
                due("neither is taken", x.price(port, good), 10);
                due("1", x.market(port, good, 1), true);
                due("price 1", x.price(port, good), 1);
                due("1000", x.market(port, good, 1000), true);
                due("price 1000", x.price(port, good), 1000);
                x.market(port, good, 100 * port + good);
            }
        }
        x.months(1);
        for (int port = 1; port <= 4; port++) {
            for (int good = 1; good <= 3; good++) {
                due("each market has its own", x.price(port, good), 100 * port + good);
            }
        }
        VoyageCompany y = Scenes.coinAt(1, 10000);
        Scenes.order(y, 1, "buy pepper 50;");
        due("moved by what was bought", y.price(1, 1), 14);
        y.market(1, 1, 10);
        due("the base when that is told, though it is the same", y.price(1, 1), 10);
    }

    /** "then, if 10 goes into the number of bales of this GOOD that were BOUGHT there by now, the PRICE is 1 more" */
    private static void tenthBought() {
        for (int n = 8; n <= 12; n++) {
            VoyageCompany x = Scenes.coinAt(1, 10000);
            Scenes.order(x, 1, "buy pepper " + n + ";");
            due("cost of " + n, 10000 - x.store(1, 0), n <= 10 ? 10 * n : 100 + 11 * (n - 10));
        }
        for (int n = 19; n <= 20; n++) {
            VoyageCompany x = Scenes.coinAt(1, 10000);
            Scenes.order(x, 1, "buy pepper " + n + ";");
            due("price behind " + n, x.price(1, 1), n == 19 ? 10 : 11);
        }
    }

    /** "by now": from the beginning, not of the month, nor since the BASE was told. */
    private static void tenthBoughtByNow() {
        VoyageCompany x = Scenes.coinAt(1, 10000);
        Scenes.order(x, 1, "buy pepper 9;");
        due("nine", x.store(1, 0), 9910);
        Scenes.order(x, 1, "buy pepper 2;");
        due("the tenth at 10, the next at 11", x.store(1, 0), 9910 - 21);
        Scenes.order(x, 1, "buy pepper 6;");
        due("six at 10", x.store(1, 0), 9889 - 60);
        x.market(1, 1, 10);
        Scenes.order(x, 1, "buy pepper 4;");
        due("the twentieth at 10, the next at 11", x.store(1, 0), 9829 - 41);
    }

    /** "of this GOOD", "there" */
    private static void tenthOfEachMarket() {
        VoyageCompany x = Scenes.company(1000);
        x.ship(100, 0, 0, 1);
        x.load(0, 0, 5000);
        x.load(1, 0, 5000);
        x.sail(0, 1);
        x.sail(1, 2);
        Check.instruct(x, 1, "unload;");
        Check.instruct(x, 2, "unload;");
        x.months(5);
        Scenes.order(x, 1, "buy silk 9;");
        due("nine of silk at port 1", x.store(1, 0), 4910);
        Check.instruct(x, 2, "buy silk 2;");
        Scenes.order(x, 1, "buy cloth 2;");
        due("two of cloth there", x.store(1, 0), 4910 - 20);
        due("two of silk at port 2", x.store(2, 0), 5000 - 20);
    }

    /** "if 10 goes into the number of those that were SOLD there by now, it is 1 less" */
    private static void tenthSold() {
        for (int n = 8; n <= 12; n++) {
            VoyageCompany x = Scenes.coinAt(1, 10000);
            Scenes.order(x, 1, "buy silk 30;");
            x.market(1, 3, 10);
            int before = x.store(1, 0);
            Scenes.order(x, 1, "sell silk " + n + ";");
            due(n + " bring", x.store(1, 0) - before, n <= 10 ? 10 * n : 100 + 9 * (n - 10));
        }
        VoyageCompany x = Scenes.coinAt(1, 10000);
        Scenes.order(x, 1, "buy silk 9;");
        Scenes.order(x, 1, "sell silk 1;");
        Scenes.order(x, 1, "buy silk 2;");
        due("bales sold do not count as bought", x.store(1, 0), 10000 - 90 + 10 - 21);
        Scenes.order(x, 1, "sell silk 8;");
        Scenes.order(x, 1, "sell silk 2;");
        due("nine by now, the tenth at 10, the next at 9", x.store(1, 0), 10000 - 90 + 10 - 21 + 80 + 19);
    }

    /** "1 at least" */
    private static void priceIsOneAtLeast() {
        VoyageCompany x = Scenes.coinAt(1, 10000);
        x.market(1, 2, 1);
        Scenes.order(x, 1, "buy cloth 40;");
        int coin = 10000 - 100;
        due("forty at 1 to 4", x.store(1, 0), coin);
        x.market(1, 2, 2);
        Scenes.order(x, 1, "sell cloth 10;");
        due("ten at 2", x.store(1, 0), coin + 20);
        due("1, and back to 2", x.price(1, 2), 2);
        Scenes.order(x, 1, "sell cloth 20;");
        due("ten at 2, ten at 1", x.store(1, 0), coin + 50);
        due("still 1, and back to 2", x.price(1, 2), 2);
        x.market(1, 2, 1);
        Scenes.order(x, 1, "sell cloth 10;");
        due("ten at 1", x.store(1, 0), coin + 60);
        due("1", x.price(1, 2), 1);
    }

    /** Ship 0, of hold 100 with a licence, and 1000 coin are at port 2 in month 5. */
    private static VoyageCompany licensedAt2(int hold, int licence) {
        VoyageCompany x = new VoyageCompany();
        x.subscribe(0, 10);
        x.ship(hold, licence, 0, 1);
        x.load(0, 0, 1000);
        x.sail(0, 2);
        Check.instruct(x, 2, "unload;");
        x.months(5);
        return x;
    }

    /** "what others buy, too" */
    private static void whatMastersBuyMovesThePrice() {
        for (int licence = 9; licence <= 12; licence++) {
            VoyageCompany x = licensedAt2(100, licence);
            Scenes.order(x, 2, "buy pepper 9;");
            Scenes.order(x, 2, "sail 0;");
            due("own", x.tell(0, 4), licence);
            due("price behind 9 and " + licence, x.price(2, 1), licence < 11 ? 10 : 11);
        }
        VoyageCompany x = licensedAt2(100, 9);
        Scenes.order(x, 2, "sail 0;");
        Scenes.order(x, 2, "buy pepper 2;");
        due("the tenth at 10, the next at 11", x.store(2, 0), 1000 - 21);
        VoyageCompany y = licensedAt2(100, 50);
        Scenes.order(y, 2, "sail 0;");
        due("fifty of a master", y.price(2, 1), 14);
        due("of pepper alone", y.price(2, 2), 10);
    }

    /** "SHIPS (at most 4, from 0 on)" */
    private static void shipsAreFourAtMost() {
        VoyageCompany x = new VoyageCompany();
        due("none yet", x.tell(0, 0), -9);
        for (int i = 0; i < 4; i++) {
            due("number", x.ship(10 + i, 0, 0, 0), i);
            due("told", x.tell(i, 3), 10 + i);
            due("not the next", x.tell(i + 1, 0), -9);
        }
        due("a fifth", x.ship(10, 0, 0, 0), -1);
        due("four", x.count(1), 4);
    }

    /** "ROOM: HOLD less bales of CARGO, less OWN ones", "COIN takes no room" */
    private static void room() {
        for (int bales = 8; bales <= 12; bales++) {
            VoyageCompany x = licensedAt2(12, 3);
            Scenes.order(x, 2, "buy cloth " + bales + ";");
            Scenes.order(x, 2, "load cloth 99;");
            due("hold less cargo", x.tell(0, 3), 12 - bales);
            Scenes.order(x, 2, "pay 500;");
            due("coin aboard", x.tell(0, 10), 500);
            due("coin takes none", x.tell(0, 3), 12 - bales);
            Scenes.order(x, 2, "sail 0;");
            int own = Math.min(3, 12 - bales);
            due("own as there is room", x.tell(0, 4), own);
            due("less own ones", x.tell(0, 3), 12 - bales - own);
        }
    }

    /** "takes 2 months for each PORT between, the last one too: .. is there when month m + that begins" */
    private static void monthsOfVoyages() {
        for (int from = 0; from < 5; from++) {
            for (int to = 0; to < 5; to++) {
                if (from == to) {
                    continue;
                }
                String way = "from " + from + " to " + to + ": ";
                VoyageCompany x = from == 0 ? Scenes.company(1) : Scenes.shipAt(from, 10, 0);
                int month = to > from ? 24 : 15;
                x.months(month - x.count(0));
                int takes = 2 * Math.abs(to - from);
                if (from == 0) {
                    due(way + "answer", x.sail(0, to), month + takes);
                    x.months(1);
                } else {
                    Scenes.order(x, from, "sail " + to + ";");
                }
                due(way + "due", x.tell(0, 2), month + takes);
                if (takes > 1) {
                    x.months(takes - 1);
                }
                due(way + "ahead of its month", x.tell(0, 0), -1);
                x.months(1);
                due(way + "in its month", x.tell(0, 0), to);
            }
        }
    }

    /** "OUT (q above p) a SHIP may sail in months that leave 9, 10, 11, 0, 1, 2 by 12, HOMEWARDS in others." */
    private static void winds() {
        for (int month = 2; month < 28; month++) {
            int rest = month % 12;
            boolean out = rest == 9 || rest == 10 || rest == 11 || rest == 0 || rest == 1 || rest == 2;
            VoyageCompany home = Scenes.company(1);
            home.months(month);
            due("out of HOME in month " + month, home.sail(0, 1), out ? month + 2 : -1);
            for (int to = 0; to <= 2; to++) {
                VoyageCompany x = Scenes.shipAt(1, 10, 0);
                if (month > 2) {
                    x.months(month - 2);
                }
                Scenes.order(x, 1, "sail " + to + ";");
                boolean goes = to == 0 && !out || to == 2 && out;
                due("from 1 to " + to + " in month " + month, x.tell(0, 0), goes ? -1 : 1);
                due("voyages", x.tell(0, 5), goes ? 2 : 1);
            }
        }
    }

    private static long next(long seed) {
        return (1103515245L * seed + 12345) & 0xffffffffL;
    }

    private static long rest(long seed) {
        return (seed >> 16) % 100;
    }

    private static int seedWithRest(long rest) {
        for (int seed = 0; seed < 100000; seed++) {
            if (rest(next(seed)) == rest) {
                return seed;
            }
        }
        throw new IllegalStateException("no seed with rest " + rest);
    }

    private static int fateAtPort1(int risk, int seed) {
        VoyageCompany x = new VoyageCompany();
        x.ship(1, 0, risk, seed);
        x.sail(0, 1);
        x.months(3);
        return x.tell(0, 0);
    }

    /** "the rest by 100 is below RISK" */
    private static void restBelowRisk() {
        due("rest 0, risk 0", fateAtPort1(0, seedWithRest(0)), 1);
        due("rest 0, risk 1", fateAtPort1(1, seedWithRest(0)), -2);
        due("rest 98, risk 98", fateAtPort1(98, seedWithRest(98)), 1);
        due("rest 98, risk 99", fateAtPort1(99, seedWithRest(98)), -2);
        due("rest 99, risk 99", fateAtPort1(99, seedWithRest(99)), 1);
    }

    /** "the SEED becomes 1103515245 times itself and 12345 (32 bits)", "shifted right by 16 without its sign": voyage by voyage. */
    private static void seedsGoAround() {
        int[] seeds = {0, 1, -1, 7, 65535, 65536, -65536, Integer.MAX_VALUE, Integer.MIN_VALUE, 1103515245, -12345};
        for (int first : seeds) {
            for (int risk = 3; risk < 100; risk += 16) {
                VoyageCompany x = new VoyageCompany();
                x.ship(1, 0, risk, first);
                Check.instruct(x, 1, "sail 0;");
                long seed = first & 0xffffffffL;
                boolean lost = false;
                // out in month 0 of a year and back in month 3: two voyages each year
                for (int year = 0; year < 4 && !lost; year++) {
                    seed = next(seed);
                    lost = rest(seed) < risk;
                    x.sail(0, 1);
                    x.months(3);
                    due("seed " + first + ", risk " + risk + ", out in year " + year, x.tell(0, 0), lost ? -2 : 1);
                    if (!lost) {
                        seed = next(seed);
                        lost = rest(seed) < risk;
                    }
                    x.months(9);
                    due("seed " + first + ", risk " + risk + ", back in year " + year, x.tell(0, 0), lost ? -2 : 0);
                }
            }
        }
    }

    /** "When it sails the SEED becomes": not by a refused sail(), nor by a factor's that can't be. */
    private static void seedMovesWithVoyagesAlone() {
        int seed = 0;
        while (rest(next(seed)) < 51 || rest(next(next(seed))) != 50) {
            seed++;
        }
        VoyageCompany x = new VoyageCompany();
        x.ship(1, 0, 51, seed);
        x.sail(0, 0);
        x.sail(0, 5);
        x.months(3);
        due("not in this month", x.sail(0, 1), -1);
        x.months(6);
        due("out", x.sail(0, 1), 11);
        x.months(2);
        Scenes.order(x, 1, "sail 0;");
        due("safe, and not in this month", x.tell(0, 0), 1);
        x.months(3);
        Scenes.order(x, 1, "sail 0;");
        due("on its way", x.tell(0, 2), 17);
        x.months(2);
        due("the second rest counts", x.tell(0, 0), -2);
    }

    /** "when it should it is LOST, with all that it has" */
    private static void lostWhenItShould() {
        VoyageCompany x = new VoyageCompany();
        x.subscribe(0, 1);
        x.ship(9, 0, 1, seedWithRest(0));
        x.load(0, 0, 40);
        x.sail(0, 3);
        x.months(6);
        due("at sea ahead of month 6", x.tell(0, 0), -1);
        due("with its coin", x.tell(0, 10), 40);
        due("none lost", x.sum(0, 4), 0);
        x.months(1);
        due("lost in month 6", x.tell(0, 0), -2);
        due("its coin too", x.sum(0, 4), 40);
        due("none aboard", x.tell(0, 10), 0);
        x.months(1);
        due("lost once", x.sum(0, 4), 40);
        due("one lost", x.count(3), 1);
    }

    // ---- Term 3

    /** "First the SHIPS whose month it is come to their PORT .., then LETTERS that are due. Then each factor" */
    private static void factorsSeeWhatCameInTheMonth() {
        VoyageCompany x = Scenes.company(1);
        x.sail(0, 2);
        x.letter(1, 7);
        Check.instruct(x, 2, "if ships=1:wait;");
        Check.instruct(x, 1, "if letter=7:wait;");
        x.months(3);
        due("no letter in month 2", x.factor(1, 1), -1);
        x.months(1);
        due("a letter in month 3", x.factor(1, 1), 0);
        due("no ship in month 3", x.factor(2, 1), -1);
        x.months(1);
        due("a ship in month 4", x.factor(2, 1), 0);
    }

    /** "does the first LINE that holds": that one alone, though it can't be. */
    private static void firstLineAlone() {
        VoyageCompany x = Scenes.coinAt(1, 1000);
        Scenes.order(x, 1, "if coin<1000:buy pepper 1;if coin=1000:buy pepper 2;buy pepper 4;");
        due("the second holds", x.factor(1, 1), 1);
        due("and is done alone", x.store(1, 1), 2);
        Scenes.order(x, 1, "sail 1;buy pepper 9;");
        due("to where it is", x.factor(1, 1), 0);
        due("nothing is done", x.store(1, 1), 2);
        Scenes.order(x, 1, "if coin=0:wait;");
        due("none holds", x.factor(1, 1), -1);
        Scenes.order(x, 1, "");
        due("no instructions", x.factor(1, 1), -1);
    }

    /** "buy .. so many at most, as long as COIN .. in the STORE" */
    private static void buyWithTheLastCoin() {
        int[][] cases = {{29, 99, 2}, {30, 99, 3}, {30, 2, 2}, {30, 3, 3}, {30, 4, 3}, {30, 0, 0}, {9, 1, 0}, {10, 1, 1},
            {99, 99, 9}, {100, 99, 10}, {110, 99, 10}, {111, 99, 11}};
        for (int[] c : cases) {
            VoyageCompany x = Scenes.coinAt(1, c[0]);
            Scenes.order(x, 1, "buy cloth " + c[1] + ";");
            String what = c[1] + " for " + c[0] + " coin";
            due(what, x.store(1, 2), c[2]);
            due("left of " + what, x.store(1, 0), c[0] - 10 * c[2] - (c[2] == 11 ? 1 : 0));
            due("bought of " + what, x.sum(2, 0), c[2]);
            due("the line held", x.factor(1, 1), 0);
        }
        VoyageCompany none = new VoyageCompany();
        Scenes.order(none, 1, "buy cloth 5;");
        due("without coin", none.store(1, 2), 0);
    }

    /** "sell: bale by bale, so many at most, as long as .. bales are in the STORE" */
    private static void sellTheLastBale() {
        for (int n = 0; n <= 7; n++) {
            VoyageCompany x = Scenes.coinAt(1, 50);
            Scenes.order(x, 1, "buy silk 5;");
            Scenes.order(x, 1, "sell silk " + n + ";");
            int sold = Math.min(5, n);
            due("left of five less " + n, x.store(1, 3), 5 - sold);
            due("coin for them", x.store(1, 0), 10 * sold);
            due("sold", x.sum(3, 3), sold);
        }
    }

    /** "load: so many bales at most from the STORE to THE SHIP, for which it has ROOM" */
    private static void loadWhatFits() {
        int[][] cases = {{100, 5, 4}, {100, 5, 5}, {100, 5, 6}, {100, 5, 0}, {100, 0, 3}, {5, 9, 4}, {5, 9, 5}, {5, 9, 6}, {5, 9, 99999}, {1, 1, 1}, {1, 2, 2}};
        for (int[] c : cases) {
            VoyageCompany x = licensedAt2(c[0], 0);
            Scenes.order(x, 2, "buy pepper " + c[1] + ";");
            Scenes.order(x, 2, "load pepper " + c[2] + ";");
            int loaded = Math.min(Math.min(c[0], c[1]), c[2]);
            String what = c[2] + " of " + c[1] + " into " + c[0];
            due(what, x.tell(0, 11), loaded);
            due("left of " + what, x.store(2, 1), c[1] - loaded);
        }
    }

    /** "pay: so much COIN likewise (if there is a SHIP)" */
    private static void payWhatThereIs() {
        int[] amounts = {0, 1, 999, 1000, 1001, 99999};
        for (int amount : amounts) {
            VoyageCompany x = licensedAt2(1, 0);
            Scenes.order(x, 2, "pay " + amount + ";");
            int paid = Math.min(1000, amount);
            due("paid of " + amount, x.tell(0, 10), paid);
            due("left of " + amount, x.store(2, 0), 1000 - paid);
        }
    }

    /** "load, pay, unload, sail" without a SHIP at the PORT: "it can't be: nothing is done". */
    private static void nothingWithoutShip() {
        String[] acts = {"load pepper 3", "pay 7", "unload", "sail 0", "sail 3", "wait"};
        for (String act : acts) {
            VoyageCompany x = licensedAt2(100, 9);
            Scenes.order(x, 2, "buy pepper 5;");
            Scenes.order(x, 2, "sail 0;");
            Scenes.order(x, 2, act + ";");
            due(act + ": the line held", x.factor(2, 1), 0);
            due(act + ": coin", x.store(2, 0), 950);
            due(act + ": pepper", x.store(2, 1), 5);
            due(act + ": voyages", x.tell(0, 5), 2);
            due(act + ": own", x.tell(0, 4), 9);
        }
    }

    /** "unload: all CARGO of THE SHIP goes to the STORE": its OWN bales stay aboard. */
    private static void unloadFarOff() {
        VoyageCompany x = licensedAt2(100, 6);
        Scenes.order(x, 2, "buy silk 8;");
        Scenes.order(x, 2, "load silk 8;");
        Scenes.order(x, 2, "pay 300;");
        Check.instruct(x, 1, "unload;");
        Scenes.order(x, 2, "sail 1;");
        x.months(2);
        due("at port 1", x.tell(0, 0), 1);
        due("silk", x.store(1, 3), 8);
        due("coin", x.store(1, 0), 300);
        due("no cargo", x.tell(0, 13) + x.tell(0, 10), 0);
        due("own stays", x.tell(0, 4), 6);
        due("no masters' yet", x.sum(1, 6), 0);
        x.months(1);
        due("an empty one once more", x.store(1, 3), 8);
    }

    /** "up to LICENCE in all and as long as there is ROOM"; not if it does not sail. */
    private static void mastersLicence() {
        int[][] cases = {{10, 0, 0}, {10, 1, 1}, {10, 9, 9}, {10, 10, 10}, {10, 11, 10}, {1, 50, 1}, {50, 50, 50}, {51, 50, 50}};
        for (int[] c : cases) {
            VoyageCompany x = Scenes.shipAt(2, c[0], c[1]);
            Scenes.order(x, 2, "sail 2;");
            due("not to the same port", x.tell(0, 4), 0);
            Scenes.order(x, 2, "sail 3;");
            due("not in a month that does not let it", x.tell(0, 4), 0);
            due("nor is one bought", x.sum(1, 0), 0);
            Scenes.order(x, 2, "sail 1;");
            due("hold " + c[0] + " and licence " + c[1], x.tell(0, 4), c[2]);
            due("bought by masters, too", x.sum(1, 0), c[2]);
            due("for no coin", x.sum(0, 3), 0);
            Check.instruct(x, 1, "sail 0;");
            x.months(2);
            due("in all", x.tell(0, 4), c[2]);
            due("on its way home", x.tell(0, 1), 0);
        }
    }

    /** "Then each PRICE moves by 1 towards its BASE" */
    private static void pricesMoveByOne() {
        VoyageCompany x = Scenes.coinAt(1, 10000);
        Scenes.order(x, 1, "buy pepper 30;");
        int[] fromAbove = {12, 11, 10, 10};
        for (int price : fromAbove) {
            due("from above", x.price(1, 1), price);
            Scenes.order(x, 1, "wait;");
        }
        Scenes.order(x, 1, "sell pepper 30;");
        int[] fromBelow = {8, 9, 10, 10};
        for (int price : fromBelow) {
            due("from below", x.price(1, 1), price);
            Scenes.order(x, 1, "wait;");
        }
    }

    /** "the STORES of all PORTS are noted as of this month", behind what was done in it. */
    private static void storesAreNoted() {
        VoyageCompany x = Scenes.coinAt(1, 1000);
        Scenes.order(x, 1, "buy pepper 3;");
        Scenes.order(x, 1, "buy cloth 4;");
        Scenes.order(x, 1, "buy silk 5;");
        int[][] notes = {{0, 0, 0, 0}, {1000, 0, 0, 0}, {970, 3, 0, 0}, {930, 3, 4, 0}, {880, 3, 4, 5}};
        for (int i = 0; i < notes.length; i++) {
            for (int good = 0; good < 4; good++) {
                due("month " + (i + 1) + ", good " + good, x.noted(1, good, i + 1), notes[i][good]);
                due("HOME", x.noted(0, good, i + 1), good == 0 ? 99000 : 0);
                due("another port", x.noted(2, good, i + 1), 0);
            }
        }
        x.months(3);
        for (int good = 0; good < 4; good++) {
            due("known of month 5, good " + good, x.known(1, good), notes[4][good]);
        }
    }

    /** "comes when the month 3 * PORT later begins; of several that come at once the one sent last counts" */
    private static void letters() {
        for (int port = 1; port <= 4; port++) {
            VoyageCompany x = new VoyageCompany();
            x.months(5);
            due("first", x.letter(port, 11), 5 + 3 * port);
            due("second", x.letter(port, 9999), 5 + 3 * port);
            due("sent last", x.letter(port, 1), 5 + 3 * port);
            x.months(1);
            due("sent a month later", x.letter(port, 22), 6 + 3 * port);
            x.months(3 * port - 1);
            due("not yet at " + port, x.factor(port, 2), 0);
            x.months(1);
            due("the one sent last to " + port, x.factor(port, 2), 1);
            x.months(1);
            due("then the next to " + port, x.factor(port, 2), 22);
            for (int i = 0; i < 40; i++) {
                x.months(1);
                due("it stays the last", x.factor(port, 2), 22);
            }
        }
    }

    /** "NEWS .. is at HOME when the month 3 * PORT later is over (of HOME at once)" */
    private static void newsEdges() {
        for (int port = 0; port <= 4; port++) {
            VoyageCompany x = Scenes.company(3);
            if (port > 0) {
                x.load(0, 0, 300);
                x.sail(0, port);
                Check.instruct(x, port, "unload;");
                x.months(3 * port);
            }
            due("none of port " + port + " ahead of month " + x.count(0), x.known(port, 0), -1);
            x.months(1);
            due("of month 0 at port " + port, x.known(port, 0), port == 0 ? 300 : 0);
            if (port > 0) {
                x.months(2 * port - 1);
                due("of the month ahead of the ship's at " + port, x.known(port, 0), 0);
                x.months(1);
                due("of the ship's month at " + port, x.known(port, 0), 300);
            }
        }
    }

    // ---- Term 4

    /** "PERSONS 0 .. 9 have SHARES, 1000 in all at most; each brings 100 COIN to HOME's STORE" */
    private static void thousandShares() {
        for (int person = -1; person <= 10; person++) {
            VoyageCompany x = new VoyageCompany();
            boolean is = person >= 0 && person <= 9;
            due("1001 of person " + person, x.subscribe(person, 1001), -1);
            due("999 of person " + person, x.subscribe(person, 999), is ? 999 : -1);
            due("2 more of person " + person, x.subscribe(person, 2), -1);
            due("1 more of person " + person, x.subscribe(person, 1), is ? 1000 : -1);
            due("coin", x.store(0, 0), is ? 100000 : 0);
            due("shares", x.shares(person), is ? 1000 : -1);
            due("got", x.got(person, 0), is ? 0 : -1);
            due("one more of another", x.subscribe(5, 1), is ? -1 : 1);
        }
        VoyageCompany x = new VoyageCompany();
        due("1000 at once", x.subscribe(0, 1000), 1000);
    }

    /** "gets by PERSONS all whole ones that are due to it by then": one that is just whole, one that just is not. */
    private static void wholeOnes() {
        VoyageCompany x = new VoyageCompany();
        x.subscribe(0, 3);
        x.subscribe(1, 7);
        int[][] steps = {
            // n, given, got of 0, got of 1, carried
            {3, 2, 0, 2, 1},
            {1, 1, 1, 2, 1},
            {1, 1, 1, 3, 1},
            {1, 1, 1, 4, 1},
            {4, 5, 3, 7, 0},
            {10, 10, 6, 14, 0},
            {9, 8, 8, 20, 1},
            {1, 2, 9, 21, 0},
        };
        int given = 0;
        for (int i = 0; i < steps.length; i++) {
            int[] s = steps[i];
            due("step " + i, x.divide(0, s[0]), s[1]);
            due("got of 0 in step " + i, x.got(0, 0), s[2]);
            due("got of 1 in step " + i, x.got(1, 0), s[3]);
            due("carried in step " + i, x.carried(0), s[4]);
            given += s[1];
            due("store in step " + i, x.store(0, 0), 1000 - given);
            due("divided in step " + i, x.sum(0, 5), given);
        }
    }

    /** "(of this GOOD, with what is still due from earlier ones)" */
    private static void dueByGoods() {
        VoyageCompany x = Scenes.homeWithPepper(60);
        x.unload(0);
        x.transfer(0, 1, 500);
        due("half a bale each", x.divide(1, 1), 0);
        due("half a coin each", x.divide(0, 1), 0);
        due("pepper carried", x.carried(1), 1);
        due("coin carried", x.carried(0), 1);
        due("no cloth carried", x.carried(2), 0);
        due("the other half of the bale", x.divide(1, 1), 2);
        due("coin is still carried", x.carried(0), 1);
        due("and not got", x.got(0, 0), 0);
        due("pepper got", x.got(1, 1), 1);
    }

    /** "(what is due stays)", also to a PERSON who has no SHARES any more. */
    private static void dueStaysWithThePerson() {
        VoyageCompany x = new VoyageCompany();
        x.subscribe(0, 1);
        x.subscribe(1, 1);
        x.divide(0, 1);
        due("all shares away", x.transfer(0, 2, 1), true);
        due("half is due to 0, 1 and then 2", x.divide(0, 1), 1);
        due("whole for 1", x.got(1, 0), 1);
        due("not for 0", x.got(0, 0), 0);
        due("nor for 2", x.got(2, 0), 0);
        due("carried", x.carried(0), 1);
        x.transfer(2, 0, 1);
        due("again half", x.divide(0, 1), 1);
        due("whole for 0 now", x.got(0, 0), 1);
    }

    /** "No more SHARES are paid in once something was DIVIDED": though nobody got of it; not by a refused division. */
    private static void sharesAreClosed() {
        VoyageCompany x = new VoyageCompany();
        due("without shares", x.divide(0, 1), -1);
        due("open", x.subscribe(0, 1), 1);
        due("open", x.subscribe(1, 1), 1);
        due("refused", x.divide(0, 201), -1);
        due("refused", x.divide(0, 0), -1);
        due("refused", x.divide(1, 1), -1);
        due("still open", x.subscribe(2, 1), 1);
        due("nobody gets", x.divide(0, 1), 0);
        due("closed", x.subscribe(0, 1), -1);
        due("for each", x.subscribe(9, 1), -1);
        due("but sold on", x.transfer(0, 9, 1), true);
    }

    public static void main(String[] args) {
        portsAreFive();
        goodsAreFour();
        monthsEndAt599();
        baseAndPrice();
        tenthBought();
        tenthBoughtByNow();
        tenthOfEachMarket();
        tenthSold();
        priceIsOneAtLeast();
        whatMastersBuyMovesThePrice();
        shipsAreFourAtMost();
        room();
        monthsOfVoyages();
        winds();
        restBelowRisk();
        seedsGoAround();
        seedMovesWithVoyagesAlone();
        lostWhenItShould();
        factorsSeeWhatCameInTheMonth();
        firstLineAlone();
        buyWithTheLastCoin();
        sellTheLastBale();
        loadWhatFits();
        payWhatThereIs();
        nothingWithoutShip();
        unloadFarOff();
        mastersLicence();
        pricesMoveByOne();
        storesAreNoted();
        letters();
        newsEdges();
        thousandShares();
        wholeOnes();
        dueByGoods();
        dueStaysWithThePerson();
        sharesAreClosed();
        CHECK.finish();
    }
}
