/** The edges that promises 1 and 6 to 26 name: what each call takes just inside a bound, and refuses just outside of it. */
public final class PromiseEdgesTest {
    private static final Check CHECK = new Check("PromiseEdgesTest");
    private static final int MIN = Integer.MIN_VALUE;
    private static final int MAX = Integer.MAX_VALUE;
    /** Around 0 .. 4 and 0 .. 3, and far off. */
    private static final int[] NUMBERS = {MIN, MIN + 1, -2, -1, 0, 1, 2, 3, 4, 5, 6, 255, 256, 65536, MAX - 1, MAX};

    private static void due(String what, long got, long want) {
        CHECK.due(what, got, want);
    }

    private static void due(String what, boolean got, boolean want) {
        CHECK.due(what, got, want);
    }

    private static boolean within(int low, int number, int high) {
        return number >= low && number <= high;
    }

    /** Promise 1: "No SHARES, no SHIPS, no INSTRUCTIONS; month 0; no images." */
    private static void newObject() {
        VoyageCompany x = new VoyageCompany();
        due("month", x.count(0), 0);
        due("ships", x.count(1), 0);
        due("shares", x.count(2), 0);
        for (int person = 0; person < 10; person++) {
            due("shares of " + person, x.shares(person), 0);
        }
        for (int port = 1; port <= 4; port++) {
            due("lines of " + port, x.factor(port, 0), 0);
        }
        due("no ship 0", x.tell(0, 0), -9);
        due("no image 0", x.again(0), false);
        due("an empty tape", x.end(1), -1);
        due("months go by all the same", x.months(1), 1);
        VoyageCompany y = new VoyageCompany();
        due("another one is new, too", y.count(0), 0);
    }

    /** Promise 6: "false: there is no such MARKET, or another BASE" */
    private static void market() {
        for (int n : NUMBERS) {
            VoyageCompany x = new VoyageCompany();
            due("port " + n, x.market(n, 2, 20), within(1, n, 4));
            due("good " + n, x.market(3, n, 30), within(1, n, 3));
            due("base " + n, x.market(2, 2, n), within(1, n, 1000));
        }
        VoyageCompany x = new VoyageCompany();
        due("base 999", x.market(2, 2, 999), true);
        due("base 1000", x.market(2, 2, 1000), true);
        due("base 1001", x.market(2, 2, 1001), false);
        due("the last that was taken", x.price(2, 2), 1000);
    }

    /** Promise 7: "NONE: there are 4, or other numbers." */
    private static void ship() {
        int[] numbers = {MIN, -1, 0, 1, 49, 50, 51, 98, 99, 100, 499, 500, 501, MAX};
        for (int n : numbers) {
            due("hold " + n, new VoyageCompany().ship(n, 0, 0, 0), within(1, n, 500) ? 0 : -1);
            due("licence " + n, new VoyageCompany().ship(1, n, 0, 0), within(0, n, 50) ? 0 : -1);
            due("risk " + n, new VoyageCompany().ship(1, 0, n, 0), within(0, n, 99) ? 0 : -1);
            due("seed " + n, new VoyageCompany().ship(1, 0, 0, n), 0);
        }
        VoyageCompany x = new VoyageCompany();
        x.ship(0, 0, 0, 0);
        for (int i = 0; i < 6; i++) {
            due("ship " + i, x.ship(500, 50, 99, i), i < 4 ? i : -1);
        }
    }

    /** Promise 8: "a number 1 .. 9999 .. NONE: another number, or a PORT that is not 1 .. 4" */
    private static void letter() {
        int[] numbers = {MIN, -1, 0, 1, 2, 9998, 9999, 10000, MAX};
        for (int n : numbers) {
            VoyageCompany x = new VoyageCompany();
            boolean is = within(1, n, 9999);
            due("number " + n, x.letter(2, n), is ? 6 : -1);
            x.months(7);
            due("came of " + n, x.factor(2, 2), is ? n : 0);
        }
        for (int n : NUMBERS) {
            due("to " + n, new VoyageCompany().letter(n, 5), within(1, n, 4) ? 3 * n : -1);
        }
    }

    /** Promise 9: "NONE: no such PERSON, n below 1, there would be more than 1000, or something was DIVIDED" */
    private static void subscribe() {
        int[] numbers = {MIN, -1, 0, 1, 399, 400, 401, 1000, MAX - 600, MAX};
        for (int n : numbers) {
            VoyageCompany x = new VoyageCompany();
            x.subscribe(0, 600);
            due("600 and " + n, x.subscribe(9, n), within(1, n, 400) ? n : -1);
            due("in all behind " + n, x.count(2), within(1, n, 400) ? 600 + n : 600);
            due("of the same", x.subscribe(0, n), n == 1 ? 601 : -1);
        }
        for (int person = -2; person <= 11; person++) {
            due("person " + person, new VoyageCompany().subscribe(person, 1), within(0, person, 9) ? 1 : -1);
        }
        due("person min", new VoyageCompany().subscribe(MIN, 1), -1);
        due("person max", new VoyageCompany().subscribe(MAX, 1), -1);
    }

    /** Promise 10: "false: no such PERSONS, or one alone, n below 1, or it has not so many" */
    private static void transfer() {
        int[] persons = {MIN, -1, 0, 1, 8, 9, 10, MAX};
        for (int from : persons) {
            for (int to : persons) {
                VoyageCompany x = new VoyageCompany();
                for (int person = 0; person < 10; person++) {
                    x.subscribe(person, 5);
                }
                boolean is = within(0, from, 9) && within(0, to, 9) && from != to;
                due("from " + from + " to " + to, x.transfer(from, to, 1), is);
                due("the one", x.shares(from), !within(0, from, 9) ? -1 : is ? 4 : 5);
                due("the other", x.shares(to), !within(0, to, 9) ? -1 : is ? 6 : 5);
                due("in all", x.count(2), 50);
            }
        }
        int[] numbers = {MIN, -1, 0, 1, 4, 5, 6, MAX};
        for (int n : numbers) {
            VoyageCompany x = new VoyageCompany();
            x.subscribe(0, 5);
            due("of 5, " + n, x.transfer(0, 1, n), within(1, n, 5));
            due("left", x.shares(0), within(1, n, 5) ? 5 - n : 5);
        }
    }

    /** Promise 11: "NONE if there is none such"; promise 24 likewise. */
    private static void sharesAndGot() {
        VoyageCompany x = new VoyageCompany();
        x.subscribe(9, 2);
        x.divide(0, 3);
        int[] persons = {MIN, -1, 0, 9, 10, MAX};
        for (int person : persons) {
            boolean is = within(0, person, 9);
            due("shares of " + person, x.shares(person), !is ? -1 : person == 9 ? 2 : 0);
            due("got of " + person, x.got(person, 0), !is ? -1 : person == 9 ? 3 : 0);
            for (int good : NUMBERS) {
                due("got of " + person + ", " + good, x.got(person, good), !is || !within(0, good, 3) ? -1 : person == 9 && good == 0 ? 3 : 0);
            }
        }
    }

    /** Promise 12: "NONE: there is no such SHIP at HOME, no such GOOD, n below 1, not so many there, or bales for which it has no ROOM." */
    private static void load() {
        int[] numbers = {MIN, -1, 0, 1, 99, 100, 101, MAX};
        for (int n : numbers) {
            VoyageCompany x = Scenes.company(1);
            due("coin " + n + " of 100", x.load(0, 0, n), within(1, n, 100) ? n : -1);
            due("left", x.store(0, 0), within(1, n, 100) ? 100 - n : 100);
        }
        for (int n : NUMBERS) {
            due("ship " + n, Scenes.company(1).load(n, 0, 1), n == 0 ? 1 : -1);
            due("good " + n, Scenes.company(1).load(0, n, 1), n == 0 ? 1 : -1);
        }
    }

    /** Bales of promise 12, by what is there and by ROOM, beside CARGO and OWN bales. */
    private static void loadBales() {
        for (int n = 0; n <= 61; n++) {
            VoyageCompany x = Scenes.homeWithPepper(60);
            x.unload(0);
            x.ship(20, 0, 0, 1);
            due("into room 20: " + n, x.load(1, 1, n), within(1, n, 20) ? n : -1);
            VoyageCompany y = Scenes.homeWithPepper(60);
            y.unload(0);
            due("of 60: " + n, y.load(0, 1, n), within(1, n, 60) ? n : -1);
        }
        VoyageCompany x = Scenes.midway(1, 0);
        // ship 3 has hold 60, 3 of cargo and 7 own; 8 bales are at HOME, 1 of them carried
        due("with the carried one", x.load(3, 1, 8), -1);
        due("without it", x.load(3, 1, 7), 10);
        due("room", x.tell(3, 3), 43);
        due("the carried one alone", x.load(3, 1, 1), -1);
    }

    private static VoyageCompany homeWithOwn() {
        VoyageCompany x = Scenes.company(1000);
        x.ship(10, 7, 0, 1);
        x.load(0, 0, 1000);
        x.load(1, 0, 5);
        x.sail(0, 1);
        x.sail(1, 1);
        Check.instruct(x, 1, "if month=2:unload;if month=3:buy pepper 30;if month=4:load pepper 30;sail 0;");
        x.months(9);
        return x;
    }

    /** ROOM at HOME is less by OWN bales, as long as they are not unloaded. */
    private static void loadBesideOwn() {
        VoyageCompany x = homeWithOwn();
        due("unloaded", x.unload(0), 30);
        due("own of ship 1", x.tell(1, 4), 7);
        due("no room for 4", x.load(1, 1, 4), -1);
        due("room for 3", x.load(1, 1, 3), 3);
        due("none left", x.load(1, 1, 1), -1);
        due("coin all the same", x.load(1, 0, 1), 6);
        due("cargo unloaded", x.unload(1), 3);
        due("room for 10", x.load(1, 1, 10), 10);
    }

    /** Promise 13: "how many bales of CARGO. NONE: there is no such SHIP at HOME." */
    private static void unload() {
        for (int n : NUMBERS) {
            due("ship " + n + " of one", Scenes.company(1).unload(n), n == 0 ? 0 : -1);
        }
        VoyageCompany x = homeWithOwn();
        due("neither coin nor own bales count", x.unload(1), 0);
        due("coin is there", x.sum(0, 2), 0);
        due("masters'", x.sum(1, 6), 7);
        due("nothing more", x.unload(1), 0);
        due("masters' once", x.sum(1, 6), 7);
        VoyageCompany y = Scenes.midway(1, 0);
        due("at sea", y.unload(0), -1);
        due("lost", y.unload(1), -1);
        due("far off", y.unload(2), -1);
        due("at home", y.unload(3), 3);
    }

    /** Promise 14: "NONE: there is no such SHIP at HOME, no such PORT (1 .. 4), or not in this month." */
    private static void sail() {
        for (int n : NUMBERS) {
            due("ship " + n, Scenes.company(1).sail(n, 1), n == 0 ? 2 : -1);
            due("port " + n, Scenes.company(1).sail(0, n), within(1, n, 4) ? 2 * n : -1);
        }
        VoyageCompany x = Scenes.midway(1, 0);
        due("at sea", x.sail(0, 1), -1);
        due("lost", x.sail(1, 1), -1);
        due("far off", x.sail(2, 3), -1);
        due("at home", x.sail(3, 1), 11);
        due("no longer", x.sail(3, 1), -1);
    }

    /** Promise 15: "So many months go by, 1 .. 60 .. NONE for another number, or if it would be above 600." */
    private static void months() {
        int[] numbers = {MIN, -1, 0, 1, 59, 60, 61, MAX - 1, MAX};
        for (int n : numbers) {
            VoyageCompany x = new VoyageCompany();
            due("months " + n, x.months(n), within(1, n, 60) ? n : -1);
            due("month behind " + n, x.count(0), within(1, n, 60) ? n : 0);
        }
        VoyageCompany x = new VoyageCompany();
        for (int i = 0; i < 9; i++) {
            x.months(60);
        }
        x.months(30);
        due("601", x.months(31), -1);
        due("max", x.months(MAX), -1);
        due("600", x.months(30), 600);
        due("601", x.months(1), -1);
        due("0", x.months(0), -1);
    }

    /** Promises 16 and 17: "NONE if there is none such", "NONE: there is no such MARKET" */
    private static void storeAndPrice() {
        for (int port : NUMBERS) {
            VoyageCompany x = Scenes.company(1);
            for (int good : NUMBERS) {
                boolean is = within(0, port, 4) && within(0, good, 3);
                String name = "(" + port + ", " + good + ")";
                due("store" + name, x.store(port, good), !is ? -1 : port == 0 && good == 0 ? 100 : 0);
                due("price" + name, x.price(port, good), within(1, port, 4) && within(1, good, 3) ? 10 : -1);
            }
        }
    }

    /** Promise 18: "-9 if there is none such, or for another what" */
    private static void tell() {
        VoyageCompany x = Scenes.company(1);
        x.ship(7, 0, 0, 0);
        for (int what = -2; what <= 16; what++) {
            boolean is = within(0, what, 5) || within(10, what, 13);
            due("ship -1, " + what, x.tell(-1, what), -9);
            due("ship 2, " + what, x.tell(2, what), -9);
            due("ship 1, " + what, x.tell(1, what), !is ? -9 : what == 1 || what == 2 ? -1 : what == 3 ? 7 : 0);
        }
        for (int n : NUMBERS) {
            due("ship " + n, x.tell(n, 5), n == 0 || n == 1 ? 0 : -9);
            due("what " + n, x.tell(0, n) == -9, !within(0, n, 5));
        }
        VoyageCompany y = Scenes.midway(1, 0);
        int[][] wanted = {{-1, 4, 17, 35, 0, 3}, {-2, -1, -1, 30, 0, 1}, {2, -1, -1, 20, 0, 1}, {0, -1, -1, 50, 7, 2}};
        for (int ship = 0; ship < 4; ship++) {
            for (int what = 0; what < 6; what++) {
                due("midway, ship " + ship + ", " + what, y.tell(ship, what), wanted[ship][what]);
            }
        }
        due("coin of ship 0", y.tell(0, 10), 500);
        due("pepper of ship 0", y.tell(0, 11), 5);
    }

    /** Promise 19: "NONE if there is none such, or for another what" */
    private static void factor() {
        VoyageCompany x = new VoyageCompany();
        x.letter(4, 77);
        Check.instruct(x, 4, "if coin>0:wait;wait;");
        due("lines", x.factor(4, 0), 2);
        due("ahead of the first month", x.factor(4, 1), -1);
        x.months(13);
        due("the line that held", x.factor(4, 1), 1);
        due("the letter that came", x.factor(4, 2), 77);
        for (int n : NUMBERS) {
            due("what " + n, x.factor(4, n) == -1, !within(0, n, 2));
            due("port " + n, x.factor(n, 2), !within(1, n, 4) ? -1 : n == 4 ? 77 : 0);
        }
        Check.instruct(x, 4, "wait;wait;wait;");
        due("of the latest month, not of new orders", x.factor(4, 1), 1);
        x.months(1);
        due("then of these", x.factor(4, 1), 0);
        Scenes.order(x, 4, "");
        due("none without", x.factor(4, 1), -1);
    }

    /** Promise 20: "NONE: there is none such, or no NEWS." */
    private static void known() {
        VoyageCompany x = Scenes.company(1);
        due("nothing ahead of the first month", x.known(0, 0), -1);
        x.months(1);
        due("behind the latest month", x.known(0, 0), 100);
        x.load(0, 0, 60);
        due("not as it is by now", x.known(0, 0), 100);
        x.months(1);
        due("then that", x.known(0, 0), 40);
        x.months(11);
        for (int port : NUMBERS) {
            for (int good : NUMBERS) {
                boolean is = within(0, port, 4) && within(0, good, 3);
                due("known(" + port + ", " + good + ")", x.known(port, good), !is ? -1 : port == 0 && good == 0 ? 40 : 0);
            }
        }
    }

    /** Promise 21: "NONE: there is none such, or the month is not over." */
    private static void noted() {
        VoyageCompany x = Scenes.company(1);
        x.months(60);
        x.load(0, 0, 1);
        x.months(2);
        int[] months = {MIN, -60, -1, 0, 1, 59, 60, 61, 62, 63, 599, 600, MAX};
        for (int month : months) {
            due("month " + month, x.noted(0, 0, month), !within(0, month, 61) ? -1 : month < 60 ? 100 : 99);
        }
        for (int port : NUMBERS) {
            due("port " + port, x.noted(port, 0, 61), !within(0, port, 4) ? -1 : port == 0 ? 99 : 0);
            due("good " + port, x.noted(0, port, 61), !within(0, port, 3) ? -1 : port == 0 ? 99 : 0);
        }
    }

    /** Promise 22: each sum of a company midway, and "-1 if there is none such, or for another what". */
    private static void sum() {
        VoyageCompany x = Scenes.midway(1, 0);
        long[][] wanted = {
            // four bales were sold at 13, four at 12, two at 12 and two at 11; 25 bought at 7 to 9, and 25 at 12 to 14
            {89700 + 52 + 48 + 46, 85818, 2003, 195 + 320, 1501, 9, 0},
            {25 + 25 + 6 + 7, 26, 15, 12, 0, 4, 6},
            {0, 0, 0, 0, 0, 0, 0},
            {0, 0, 0, 0, 0, 0, 0},
        };
        for (int good = 0; good < 4; good++) {
            long there = 0;
            for (int what = 0; what < 7; what++) {
                due("good " + good + ", " + what, x.sum(good, what), wanted[good][what]);
                there += what > 0 ? x.sum(good, what) : 0;
            }
            due("what came in is somewhere", x.sum(good, 0), there);
        }
        for (int n : NUMBERS) {
            due("good " + n, x.sum(n, 0) == -1, !within(0, n, 3));
            due("what " + n, x.sum(1, n) == -1, !within(0, n, 6));
        }
        due("what 7", x.sum(1, 7), -1);
    }

    /** Promise 23: "NONE: no such GOOD, no SHARES, n below 1, or the STORE has not so many beside what is CARRIED." */
    private static void divide() {
        int[] numbers = {MIN, -1, 0, 1, 199, 200, 201, MAX};
        for (int n : numbers) {
            VoyageCompany x = Scenes.company(2);
            due("of 200: " + n, x.divide(0, n), within(1, n, 200) ? n : -1);
        }
        for (int n : NUMBERS) {
            due("good " + n, Scenes.company(1).divide(n, 1), n == 0 ? 1 : -1);
        }
        due("no shares", new VoyageCompany().divide(0, 1), -1);
        VoyageCompany x = new VoyageCompany();
        x.subscribe(0, 1);
        x.subscribe(1, 1);
        due("one is carried", x.divide(0, 1), 0);
        due("all but for it, and one more", x.divide(0, 200), -1);
        due("all but for it", x.divide(0, 199), 200);
        due("nothing is left", x.divide(0, 1), -1);
        due("nor carried", x.carried(0), 0);
    }

    /** Promise 25: "NONE if there is none such" */
    private static void carried() {
        VoyageCompany x = Scenes.midway(1, 0);
        for (int n : NUMBERS) {
            due("carried of " + n, x.carried(n), !within(0, n, 3) ? -1 : n == 0 ? 2 : n == 1 ? 1 : 0);
        }
        due("it lies in HOME's STORE", x.store(0, 1), 8);
    }

    /** Promise 26: "NONE for another what" */
    private static void count() {
        VoyageCompany x = Scenes.midway(1, 0);
        int[] wanted = {9, 4, 897, 1};
        for (int n : NUMBERS) {
            due("count(" + n + ")", x.count(n), within(0, n, 3) ? wanted[n] : -1);
        }
    }

    public static void main(String[] args) {
        newObject();
        market();
        ship();
        letter();
        subscribe();
        transfer();
        sharesAndGot();
        load();
        loadBales();
        loadBesideOwn();
        unload();
        sail();
        months();
        storeAndPrice();
        tell();
        factor();
        known();
        noted();
        sum();
        divide();
        carried();
        count();
        CHECK.finish();
    }
}
