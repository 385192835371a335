/** Promises 1 and 6 to 28, each with ordinary inputs, edges and wrong inputs. */
public final class PromiseTest {
    private static final Check CHECK = new Check("PromiseTest");
    private static final int MIN = Integer.MIN_VALUE;
    private static final int MAX = Integer.MAX_VALUE;

    private static void due(String what, long got, long want) {
        CHECK.due(what, got, want);
    }

    private static void due(String what, boolean got, boolean want) {
        CHECK.due(what, got, want);
    }

    private static void newObject() {
        VoyageCompany x = new VoyageCompany();
        for (int i = 0; i < 4; i++) {
            due("count " + i, x.count(i), 0);
            due("carried " + i, x.carried(i), 0);
        }
        for (int port = 0; port < 5; port++) {
            for (int good = 0; good < 4; good++) {
                due("store", x.store(port, good), 0);
                due("known", x.known(port, good), -1);
                due("price", x.price(port, good), port == 0 || good == 0 ? -1 : 10);
            }
            due("lines", x.factor(port, 0), port == 0 ? -1 : 0);
            due("held", x.factor(port, 1), -1);
            due("letter", x.factor(port, 2), port == 0 ? -1 : 0);
        }
        for (int what = 0; what < 7; what++) {
            due("sum", x.sum(0, what), 0);
        }
        for (int k = 0; k < 3; k++) {
            due("again", x.again(k), false);
        }
        due("NONE", VoyageCompany.NONE, -1);
    }

    private static void market() {
        VoyageCompany x = new VoyageCompany();
        due("HOME has no market", x.market(0, 1, 5), false);
        due("port 5", x.market(5, 1, 5), false);
        due("port -1", x.market(-1, 1, 5), false);
        due("coin", x.market(1, 0, 5), false);
        due("good 4", x.market(1, 4, 5), false);
        due("good -1", x.market(1, -1, 5), false);
        due("base 0", x.market(1, 1, 0), false);
        due("base 1001", x.market(1, 1, 1001), false);
        due("price stays", x.price(1, 1), 10);
        due("base 1", x.market(1, 1, 1), true);
        due("base 1000", x.market(4, 3, 1000), true);
        due("price 1", x.price(1, 1), 1);
        due("price 1000", x.price(4, 3), 1000);
        due("another market", x.price(4, 2), 10);
        x.months(3);
        due("price at its base stays", x.price(4, 3), 1000);
    }

    private static void ship() {
        VoyageCompany x = new VoyageCompany();
        due("hold 0", x.ship(0, 0, 0, 0), -1);
        due("hold 501", x.ship(501, 0, 0, 0), -1);
        due("licence -1", x.ship(1, -1, 0, 0), -1);
        due("licence 51", x.ship(1, 51, 0, 0), -1);
        due("risk -1", x.ship(1, 0, -1, 0), -1);
        due("risk 100", x.ship(1, 0, 100, 0), -1);
        due("none yet", x.count(1), 0);
        due("least", x.ship(1, 0, 0, MIN), 0);
        due("most", x.ship(500, 50, 99, MAX), 1);
        due("third", x.ship(7, 1, 1, 0), 2);
        due("fourth", x.ship(7, 1, 1, -1), 3);
        due("fifth", x.ship(7, 1, 1, 0), -1);
        due("four", x.count(1), 4);
        due("room", x.tell(1, 3), 500);
    }

    private static void letter() {
        VoyageCompany x = new VoyageCompany();
        due("port 0", x.letter(0, 1), -1);
        due("port 5", x.letter(5, 1), -1);
        due("number 0", x.letter(1, 0), -1);
        due("number 10000", x.letter(1, 10000), -1);
        due("number 9999", x.letter(1, 9999), 3);
        due("to 4", x.letter(4, 7), 12);
        due("to 4, later that month", x.letter(4, 8), 12);
        x.months(1);
        due("a month later", x.letter(4, 6), 13);
        due("a month later to 1", x.letter(1, 1), 4);
        x.months(2);
        due("not yet", x.factor(1, 2), 0);
        x.months(1);
        due("came", x.factor(1, 2), 9999);
        x.months(1);
        due("the next one", x.factor(1, 2), 1);
        x.months(7);
        due("not yet at 4", x.factor(4, 2), 0);
        x.months(1);
        due("sent last", x.factor(4, 2), 8);
        x.months(1);
        due("then the next", x.factor(4, 2), 6);
        x.months(30);
        due("stays", x.factor(4, 2), 6);
        due("none to 2", x.factor(2, 2), 0);
    }

    private static void letterOnEachMonth() {
        VoyageCompany x = new VoyageCompany();
        for (int m = 0; m < 60; m++) {
            due("letter of month " + m, x.letter(4, 100 + m), m + 12);
            x.months(1);
            due("last letter of month " + m, x.factor(4, 2), m < 12 ? 0 : 100 + m - 12);
        }
    }

    private static void sharesOfPersons() {
        VoyageCompany x = new VoyageCompany();
        due("person 10", x.subscribe(10, 1), -1);
        due("person -1", x.subscribe(-1, 1), -1);
        due("n 0", x.subscribe(0, 0), -1);
        due("n -5", x.subscribe(0, -5), -1);
        due("n 1001", x.subscribe(0, 1001), -1);
        due("n max", x.subscribe(0, MAX), -1);
        due("600", x.subscribe(9, 600), 600);
        due("401 more", x.subscribe(0, 401), -1);
        due("max more", x.subscribe(0, MAX), -1);
        due("400 more", x.subscribe(0, 300), 300);
        due("of the same", x.subscribe(9, 100), 700);
        due("full", x.subscribe(9, 1), -1);
        due("in all", x.count(2), 1000);
        due("coin", x.store(0, 0), 100000);
        due("paid in", x.sum(0, 0), 100000);
        due("transfer to itself", x.transfer(9, 9, 1), false);
        due("transfer to 10", x.transfer(9, 10, 1), false);
        due("transfer from -1", x.transfer(-1, 9, 1), false);
        due("transfer of 0", x.transfer(9, 0, 0), false);
        due("transfer of min", x.transfer(9, 0, MIN), false);
        due("transfer of 701", x.transfer(9, 0, 701), false);
        due("transfer of 700", x.transfer(9, 0, 700), true);
        due("shares(9)", x.shares(9), 0);
        due("shares(0)", x.shares(0), 1000);
        due("shares(10)", x.shares(10), -1);
        due("shares(-1)", x.shares(-1), -1);
        due("transfer from none", x.transfer(9, 0, 1), false);
    }

    private static void loadAndUnload() {
        VoyageCompany x = Scenes.company(10);
        due("no such ship", x.load(1, 0, 1), -1);
        due("ship -1", x.load(-1, 0, 1), -1);
        due("good 4", x.load(0, 4, 1), -1);
        due("good -1", x.load(0, -1, 1), -1);
        due("n 0", x.load(0, 0, 0), -1);
        due("n 1001", x.load(0, 0, 1001), -1);
        due("n max", x.load(0, 0, MAX), -1);
        due("coin", x.load(0, 0, 400), 400);
        due("coin again", x.load(0, 0, 600), 1000);
        due("coin takes no room", x.tell(0, 3), 100);
        due("store is empty", x.store(0, 0), 0);
        due("in ships", x.sum(0, 2), 1000);
        due("unload tells bales alone", x.unload(0), 0);
        due("coin is back", x.store(0, 0), 1000);
        due("unload of none", x.unload(1), -1);
        due("unload of -1", x.unload(-1), -1);
        x.sail(0, 1);
        due("load at sea", x.load(0, 0, 1), -1);
        due("unload at sea", x.unload(0), -1);
        x.months(3);
        due("load far off", x.load(0, 0, 1), -1);
        due("unload far off", x.unload(0), -1);
    }

    private static void balesAtHome() {
        VoyageCompany x = Scenes.homeWithPepper(60);
        due("at home", x.tell(0, 0), 0);
        due("cargo", x.tell(0, 11), 60);
        due("unload", x.unload(0), 60);
        due("store", x.store(0, 1), 60);
        due("small ship", x.ship(25, 0, 0, 0), 1);
        due("no room", x.load(1, 1, 26), -1);
        due("room", x.load(1, 1, 20), 20);
        due("no room for more", x.load(1, 1, 6), -1);
        due("room for more", x.load(1, 1, 5), 25);
        due("coin into a full one", x.load(1, 0, 5), 5);
        due("divide 7", x.divide(1, 7), 7);
        due("unload bales and coin", x.unload(1), 25);
        due("store", x.store(0, 1), 53);
    }

    private static void carriedCannotBeLoaded() {
        VoyageCompany x = Scenes.company(2);
        x.subscribe(1, 1);
        due("divide 1 of 3 shares", x.divide(0, 1), 0);
        due("carried", x.carried(0), 1);
        due("store keeps it", x.store(0, 0), 300);
        due("load all", x.load(0, 0, 300), -1);
        due("load the rest", x.load(0, 0, 299), 299);
        due("divide none", x.divide(0, 1), -1);
    }

    private static void sail() {
        VoyageCompany x = Scenes.company(1);
        due("no such ship", x.sail(1, 1), -1);
        due("ship -1", x.sail(-1, 1), -1);
        due("port 0", x.sail(0, 0), -1);
        due("port 5", x.sail(0, 5), -1);
        due("port -1", x.sail(0, -1), -1);
        x.image(0);
        for (int m = 0; m < 24; m++) {
            boolean out = m % 12 <= 2 || m % 12 >= 9;
            due("sail in month " + m, x.sail(0, 4), out ? m + 8 : -1);
            x.again(0);
            x.months(1);
            x.image(0);
        }
        due("sail", x.sail(0, 3), 30);
        due("at sea already", x.sail(0, 3), -1);
        due("where", x.tell(0, 0), -1);
        due("to", x.tell(0, 1), 3);
        due("when", x.tell(0, 2), 30);
        due("voyages", x.tell(0, 5), 1);
        x.months(6);
        due("still at sea", x.tell(0, 0), -1);
        x.months(1);
        due("there", x.tell(0, 0), 3);
        due("to none", x.tell(0, 1), -1);
        due("when none", x.tell(0, 2), -1);
        due("sail from afar", x.sail(0, 4), -1);
        due("tell 6", x.tell(0, 6), -9);
        due("tell 9", x.tell(0, 9), -9);
        due("tell 14", x.tell(0, 14), -9);
        due("tell -1", x.tell(0, -1), -9);
        due("tell of ship 1", x.tell(1, 0), -9);
        due("tell of ship -1", x.tell(-1, 0), -9);
        due("tell of ship 4", x.tell(4, 0), -9);
    }

    private static void lossBySeed() {
        int[] seeds = {0, 1, 2, 3, 77, -1, -5, 12345, 65536, MIN, MAX};
        for (int seed : seeds) {
            int first = seed * 1103515245 + 12345;
            int dice = (int) ((first & 0xffffffffL) >> 16) % 100;
            for (int risk = Math.max(0, dice - 1); risk <= Math.min(99, dice + 2); risk++) {
                VoyageCompany x = new VoyageCompany();
                x.subscribe(0, 1);
                x.ship(5, 3, risk, seed);
                x.load(0, 0, 70);
                x.sail(0, 2);
                x.months(4);
                due("at sea", x.tell(0, 0), -1);
                due("not lost yet", x.count(3), 0);
                x.months(1);
                boolean lost = dice < risk;
                due("seed " + seed + " risk " + risk, x.tell(0, 0), lost ? -2 : 2);
                due("lost ships", x.count(3), lost ? 1 : 0);
                due("lost coin", x.sum(0, 4), lost ? 70 : 0);
                due("coin in ships", x.sum(0, 2), lost ? 0 : 70);
                due("coin of the ship", x.tell(0, 10), lost ? 0 : 70);
                due("lost ships count as ships", x.count(1), 1);
                due("voyages of a lost one", x.tell(0, 5), 1);
                due("unload of a lost one", x.unload(0), -1);
            }
        }
    }

    private static void months() {
        VoyageCompany x = new VoyageCompany();
        due("months(0)", x.months(0), -1);
        due("months(-1)", x.months(-1), -1);
        due("months(61)", x.months(61), -1);
        due("months(max)", x.months(MAX), -1);
        due("months(59)", x.months(59), 59);
        for (int i = 0; i < 9; i++) {
            due("months(60)", x.months(60), 119 + 60 * i);
        }
        due("beyond 600", x.months(2), -1);
        due("month stays", x.count(0), 599);
        due("the last one", x.months(1), 600);
        due("no more", x.months(1), -1);
        due("noted 599", x.noted(4, 3, 599), 0);
        due("noted 600", x.noted(4, 3, 600), -1);
        due("noted 0", x.noted(0, 0, 0), 0);
        due("count 4", x.count(4), -1);
        due("count -1", x.count(-1), -1);
    }

    private static void buying() {
        VoyageCompany x = Scenes.coinAt(1, 50000);
        due("coin there", x.store(1, 0), 50000);
        Check.instruct(x, 1, "if pepper<25:buy pepper 25;");
        x.market(1, 1, 7);
        x.months(1);
        due("25 bales", x.store(1, 1), 25);
        due("10 at 7, 10 at 8, 5 at 9", x.store(1, 0), 50000 - 70 - 80 - 45);
        due("price 9, then towards 7", x.price(1, 1), 8);
        due("held", x.factor(1, 1), 0);
        x.months(1);
        due("none holds", x.factor(1, 1), -1);
        due("price at base", x.price(1, 1), 7);
        due("bought", x.sum(1, 0), 25);
        due("paid out", x.sum(0, 3), 195);
        Check.instruct(x, 1, "buy pepper 5;");
        x.months(1);
        due("five more make thirty: 8, then 7", x.price(1, 1), 7);
        due("five at 7", x.store(1, 0), 50000 - 195 - 35);
        x.market(1, 1, 1000);
        Check.instruct(x, 1, "buy pepper 99999;");
        x.months(1);
        // 10 each at 1000 .. 1003 cost 40060; 9 at 1004 cost 9036, and 638 are left
        due("as long as there is coin", x.store(1, 1), 30 + 49);
        due("what is left", x.store(1, 0), 50000 - 195 - 35 - 40060 - 9036);
        due("the price goes back by one", x.price(1, 1), 1003);
    }

    private static void selling() {
        VoyageCompany x = Scenes.coinAt(2, 5000);
        Check.instruct(x, 2, "if cloth=0:buy cloth 47;if cloth=47:sell cloth 25;sell cloth 99;");
        x.market(2, 2, 2);
        x.months(1);
        due("bought 47", x.store(2, 2), 47);
        due("paid", x.store(2, 0), 5000 - 20 - 30 - 40 - 50 - 42);
        due("price 6 goes to 5", x.price(2, 2), 5);
        x.months(1);
        due("sold 25", x.store(2, 2), 22);
        due("brings", x.store(2, 0), 4818 + 50 + 40 + 15);
        due("price 3 goes to 2", x.price(2, 2), 2);
        x.months(1);
        due("sold as many as there are", x.store(2, 2), 0);
        // 5 at 2, then 17 at 1: the price is never below 1
        due("brings 1 at least", x.store(2, 0), 4923 + 10 + 17);
        due("price 1 goes to 2", x.price(2, 2), 2);
        due("sold", x.sum(2, 3), 47);
        due("coin got", x.sum(0, 0), 100000 + 105 + 27);
        due("held", x.factor(2, 1), 2);
    }

    private static void loadAndPay() {
        VoyageCompany x = Scenes.coinAt(1, 3000);
        Check.instruct(x, 1, "if month=3:buy silk 120;if month=4:load silk 70;if month=5:load silk 99999;if month=6:pay 100;if month=7:pay 99999;if month=8:unload;");
        x.months(1);
        due("silk", x.store(1, 3), 120);
        int coin = x.store(1, 0);
        x.months(1);
        due("load 70", x.tell(0, 13), 70);
        x.months(1);
        due("load as there is room", x.tell(0, 13), 100);
        due("room", x.tell(0, 3), 0);
        due("left in store", x.store(1, 3), 20);
        x.months(1);
        due("pay 100", x.tell(0, 10), 100);
        x.months(1);
        due("pay all", x.tell(0, 10), coin);
        due("no coin", x.store(1, 0), 0);
        x.months(1);
        due("unload coin", x.store(1, 0), coin);
        due("unload silk", x.store(1, 3), 120);
        due("ship is empty", x.sum(3, 2) + x.sum(0, 2), 0);
    }

    private static void withoutShip() {
        VoyageCompany x = Scenes.coinAt(1, 3000);
        x.subscribe(0, 1);
        Check.instruct(x, 1, "if ships=0:pay 10;sail 0;");
        x.months(1);
        due("gone", x.tell(0, 0), -1);
        x.months(1);
        due("the line holds all the same", x.factor(1, 1), 0);
        due("no coin is paid", x.store(1, 0), 3000);
        Check.instruct(x, 1, "if room=0 and ships<1:unload;");
        x.months(1);
        due("room is 0 without a ship", x.factor(1, 1), 0);
    }

    private static void theShipOfLeastNumber() {
        VoyageCompany x = new VoyageCompany();
        x.subscribe(0, 10);
        x.ship(10, 0, 0, 1);
        x.ship(20, 0, 0, 1);
        x.ship(30, 0, 0, 1);
        x.sail(2, 1);
        x.sail(1, 1);
        Check.instruct(x, 1, "if ships=2 and room=20 and month=2:wait;if ships=2:sail 0;if ships=1 and room=30:sail 0;");
        x.months(3);
        due("two ships, the least has room 20", x.factor(1, 1), 0);
        x.months(1);
        due("sail", x.factor(1, 1), 1);
        due("ship 1 sails first", x.tell(1, 0), -1);
        due("ship 2 stays", x.tell(2, 0), 1);
        x.months(1);
        due("then ship 2", x.tell(2, 0), -1);
        due("ship 0 is at home", x.tell(0, 0), 0);
    }

    private static void factorSails() {
        for (int m = 5; m < 17; m++) {
            for (int to = 0; to < 5; to++) {
                VoyageCompany x = new VoyageCompany();
                x.ship(10, 3, 0, 1);
                x.sail(0, 2);
                x.months(m);
                Check.instruct(x, 2, "sail " + to + ";");
                x.months(1);
                boolean out = m % 12 <= 2 || m % 12 >= 9;
                boolean goes = to != 2 && (to > 2) == out;
                due("month " + m + " to " + to, x.tell(0, 0), goes ? -1 : 2);
                due("when", x.tell(0, 2), goes ? m + 2 * Math.abs(to - 2) : -1);
                due("voyages", x.tell(0, 5), goes ? 2 : 1);
                due("master buys if it sails", x.tell(0, 4), goes ? 3 : 0);
                due("the line held", x.factor(2, 1), 0);
            }
        }
    }

    private static void mastersTrade() {
        VoyageCompany x = new VoyageCompany();
        x.subscribe(0, 10);
        x.ship(30, 25, 0, 1);
        x.load(0, 0, 1000);
        x.sail(0, 1);
        Check.instruct(x, 1, "if month=2:unload;if month=3:buy cloth 10;if month=4:load cloth 10;sail 0;");
        x.months(6);
        due("own bales as there is room", x.tell(0, 4), 20);
        due("no room", x.tell(0, 3), 0);
        due("coin is the master's", x.store(1, 0), 900);
        due("paid out for cloth alone", x.sum(0, 3), 100);
        due("bales got by masters", x.sum(1, 0), 20);
        due("own in ships", x.sum(1, 2), 20);
        due("20 bales raise the price by 2", x.price(1, 1), 11);
        x.months(2);
        due("home", x.tell(0, 0), 0);
        due("cargo unloaded", x.unload(0), 10);
        due("own gone", x.tell(0, 4), 0);
        due("masters'", x.sum(1, 6), 20);
        due("masters' of cloth", x.sum(2, 6), 0);
        due("no pepper in stores", x.sum(1, 1), 0);
        due("unload again", x.unload(0), 0);
        due("masters' stay", x.sum(1, 6), 20);
    }

    private static void licenceInAll() {
        VoyageCompany x = new VoyageCompany();
        x.ship(30, 12, 0, 1);
        x.sail(0, 1);
        Check.instruct(x, 1, "sail 2;");
        Check.instruct(x, 2, "sail 0;");
        x.months(3);
        due("12 at port 1", x.tell(0, 4), 12);
        due("price 11 goes back", x.price(1, 1), 10);
        x.months(2);
        due("no more at port 2", x.tell(0, 4), 12);
        due("at sea to 0", x.tell(0, 1), 0);
        due("leaves in month 4", x.tell(0, 2), 8);
        due("three voyages", x.tell(0, 5), 3);
        due("price at 2", x.price(2, 1), 10);
        x.months(4);
        due("home", x.tell(0, 0), 0);
        x.months(2);
        x.sail(0, 1);
        due("own stays if not unloaded", x.tell(0, 4), 12);
    }

    private static void lostWithAll() {
        VoyageCompany x = new VoyageCompany();
        x.subscribe(0, 10);
        int[] dice = new int[2];
        int seed = 1;
        for (int i = 0; i < 2; i++) {
            seed = seed * 1103515245 + 12345;
            dice[i] = (int) ((seed & 0xffffffffL) >> 16) % 100;
        }
        due("the dice fall as this test wants", dice[0] > dice[1], true);
        x.ship(40, 5, dice[1] + 1, 1);
        x.load(0, 0, 900);
        x.sail(0, 1);
        Check.instruct(x, 1, "if month=2:unload;if month=3:buy pepper 20;if month=4:load pepper 9;if month=5:pay 50;sail 0;");
        x.months(8);
        due("at sea", x.tell(0, 0), -1);
        due("own", x.tell(0, 4), 5);
        x.months(1);
        due("lost", x.tell(0, 0), -2);
        due("lost pepper, own too", x.sum(1, 4), 14);
        due("lost coin", x.sum(0, 4), 50);
        due("room of a lost one", x.tell(0, 3), 40);
        due("own of a lost one", x.tell(0, 4), 0);
        due("cargo of a lost one", x.tell(0, 11), 0);
        due("to", x.tell(0, 1), -1);
        due("sail", x.sail(0, 1), -1);
    }

    private static void pricesByTests() {
        VoyageCompany x = new VoyageCompany();
        x.market(3, 1, 5);
        x.market(3, 2, 6);
        x.market(3, 3, 7);
        Check.instruct(x, 3, "if price pepper=6:wait;if price cloth<6:wait;if price silk>7:wait;if price pepper<6 and price cloth=6 and price silk>6 and coin=0:wait;");
        x.months(1);
        due("the fourth line", x.factor(3, 1), 3);
        x.market(3, 3, 8);
        x.months(1);
        due("the third line", x.factor(3, 1), 2);
    }

    private static void monthsByTests() {
        VoyageCompany x = new VoyageCompany();
        Check.instruct(x, 2, "if month<3:wait;if month=11:wait;if month>7:wait;if letter=5:wait;if letter>5:wait;");
        x.letter(2, 5);
        x.months(1);
        x.letter(2, 6);
        for (int m = 1; m < 30; m++) {
            x.months(1);
            int y = m % 12;
            int want = y < 3 ? 0 : y == 11 ? 1 : y > 7 ? 2 : m == 6 ? 3 : m > 6 ? 4 : -1;
            due("line of month " + m, x.factor(2, 1), want);
        }
        due("orders do not change what held", Check.instruct(x, 2, ""), 0);
        due("what held", x.factor(2, 1), 4);
        x.months(1);
        due("none holds without lines", x.factor(2, 1), -1);
    }

    private static void wrongPlaces() {
        VoyageCompany x = Scenes.company(1);
        x.months(1);
        int[] ports = {-1, 5, MIN, MAX};
        for (int port : ports) {
            due("store", x.store(port, 0), -1);
            due("price", x.price(port, 1), -1);
            due("factor", x.factor(port, 0), -1);
            due("known", x.known(port, 0), -1);
            due("noted", x.noted(port, 0, 0), -1);
            due("letter", x.letter(port, 1), -1);
        }
        int[] goods = {-1, 4, MIN, MAX};
        for (int good : goods) {
            due("store", x.store(0, good), -1);
            due("price", x.price(1, good), -1);
            due("known", x.known(0, good), -1);
            due("noted", x.noted(0, good, 0), -1);
            due("sum", x.sum(good, 0), -1);
            due("divide", x.divide(good, 1), -1);
            due("got", x.got(0, good), -1);
            due("carried", x.carried(good), -1);
        }
        due("sum 7", x.sum(0, 7), -1);
        due("sum -1", x.sum(0, -1), -1);
        due("got of person 10", x.got(10, 0), -1);
        due("got of person -1", x.got(-1, 0), -1);
        due("factor 3", x.factor(1, 3), -1);
        due("factor -1", x.factor(1, -1), -1);
        due("noted -1", x.noted(0, 0, -1), -1);
        due("noted 1", x.noted(0, 0, 1), -1);
        due("noted max", x.noted(0, 0, MAX), -1);
    }

    private static void news() {
        VoyageCompany x = Scenes.coinAt(2, 700);
        // coin came into store 2 in month 4: NEWS of it is at HOME when month 10 is over
        due("noted 3", x.noted(2, 0, 3), 0);
        due("noted 4", x.noted(2, 0, 4), 700);
        due("month", x.count(0), 5);
        due("no news", x.known(2, 0), -1);
        x.months(1);
        due("no news behind month 5", x.known(2, 0), -1);
        x.months(1);
        due("news of month 0", x.known(2, 0), 0);
        x.months(3);
        due("news of month 3", x.known(2, 0), 0);
        x.months(1);
        due("news of month 4", x.known(2, 0), 700);
        due("news of HOME", x.known(0, 0), 99300);
        x.divide(0, 300);
        due("HOME as of the month before", x.known(0, 0), 99300);
        x.months(1);
        due("HOME as of this one", x.known(0, 0), 99000);
        due("port 4 is 12 months off", x.known(4, 0), -1);
        x.months(1);
        due("and then known", x.known(4, 0), 0);
    }

    private static void dividing() {
        VoyageCompany x = new VoyageCompany();
        due("no shares", x.divide(0, 1), -1);
        x.subscribe(0, 1);
        x.subscribe(3, 1);
        x.subscribe(9, 1);
        due("n 0", x.divide(0, 0), -1);
        due("n -1", x.divide(0, -1), -1);
        due("n max", x.divide(0, MAX), -1);
        due("not so many", x.divide(0, 301), -1);
        due("none of pepper", x.divide(1, 1), -1);
        due("still open", x.subscribe(3, 1), 2);
        due("divide 3 of 4", x.divide(0, 3), 1);
        due("got 0", x.got(0, 0), 0);
        due("got 3", x.got(3, 0), 1);
        due("carried", x.carried(0), 2);
        due("closed", x.subscribe(3, 1), -1);
        due("what is due stays", x.transfer(0, 3, 1), true);
        // now 3/4 is due to persons 0 and 9, 2/4 to person 3, who has 3 of 4 shares
        due("divide 1", x.divide(0, 1), 2);
        due("got 3 more", x.got(3, 0), 2);
        due("got 9", x.got(9, 0), 1);
        due("got 0 none", x.got(0, 0), 0);
        due("carried 1", x.carried(0), 1);
        x.transfer(3, 0, 1);
        due("divide 1 more", x.divide(0, 1), 1);
        due("got 0 now", x.got(0, 0), 1);
        due("store", x.store(0, 0), 400 - 4);
        due("divided in all", x.sum(0, 5), 4);
        due("got of silk", x.got(0, 3), 0);
        due("divide but for the carried", x.divide(0, 396), -1);
    }

    private static void largeDivision() {
        VoyageCompany x = new VoyageCompany();
        x.subscribe(0, 999);
        x.subscribe(1, 1);
        due("all of it", x.divide(0, 99999), 99999 - 1);
        due("got 0", x.got(0, 0), 99899);
        due("got 1", x.got(1, 0), 99);
        due("carried", x.carried(0), 1);
        due("the last coin", x.divide(0, 1), 2);
        due("none left", x.store(0, 0), 0);
    }

    /** Bales bought at a told price of 1 and sold at one of 1000: millions of coin, whose parts are beyond an int. */
    private static void divisionOfMillions() {
        VoyageCompany x = Scenes.coinAt(1, 90000);
        Check.instruct(x, 1, "if month=3:buy pepper 99999;if month=4:sell pepper 99999;"
                + "if month=5:buy pepper 5000;if month=6:sell pepper 99999;");
        for (int i = 0; i < 2; i++) {
            x.market(1, 1, 1);
            x.months(1);
            x.market(1, 1, 1000);
            x.months(1);
        }
        Check.instruct(x, 1, "if coin>0:pay 99999;sail 0;");
        x.months(60);
        x.unload(0);
        int most = x.store(0, 0);
        x.transfer(0, 1, 1);
        due("millions at home", most > 3000000, true);
        due("divide", x.divide(0, most), most / 1000 + (int) (most * 999L / 1000));
        due("got 0", x.got(0, 0), (int) (most * 999L / 1000));
        due("got 1", x.got(1, 0), most / 1000);
    }

    private static void images() {
        VoyageCompany x = Scenes.company(5);
        due("image 3", x.image(3), false);
        due("image -1", x.image(-1), false);
        due("again 3", x.again(3), false);
        due("again -1", x.again(-1), false);
        Check.write(x, "wait;sail 9;");
        due("image 0", x.image(0), true);
        x.orders(1);
        x.subscribe(1, 2);
        due("image 2", x.image(2), true);
        x.months(5);
        due("no image 1", x.again(1), false);
        due("again 0", x.again(0), true);
        due("shares", x.count(2), 5);
        due("month", x.count(0), 0);
        due("fault", x.fault(0), 0);
        due("fault's place", x.fault(1), -1);
        due("tape", x.end(5), 5);
        due("orders", x.orders(1), 1);
        due("other images stay", x.again(2), true);
        due("shares of 2", x.count(2), 7);
        due("fault of 2", x.fault(0), 2);
        due("fault's place of 2", x.fault(1), 10);
        due("lines of 2", x.factor(1, 0), 0);
        due("tape of 2", x.end(1), -1);
        x.months(60);
        x.image(0);
        x.again(2);
        due("image 0 is another now", x.again(0), true);
        due("month of it", x.count(0), 60);
        due("notes of it", x.noted(0, 0, 59), 700);
    }

    private static void imageKeepsNotes() {
        VoyageCompany x = Scenes.company(1);
        x.months(60);
        x.image(1);
        x.divide(0, 30);
        x.months(60);
        due("notes behind it", x.noted(0, 0, 60), 70);
        x.again(1);
        due("month 60 is not over", x.noted(0, 0, 60), -1);
        due("month 59 is", x.noted(0, 0, 59), 100);
        x.months(1);
        due("noted anew", x.noted(0, 0, 60), 100);
    }

    public static void main(String[] args) {
        newObject();
        market();
        ship();
        letter();
        letterOnEachMonth();
        sharesOfPersons();
        loadAndUnload();
        balesAtHome();
        carriedCannotBeLoaded();
        sail();
        lossBySeed();
        months();
        buying();
        selling();
        loadAndPay();
        withoutShip();
        theShipOfLeastNumber();
        factorSails();
        mastersTrade();
        licenceInAll();
        lostWithAll();
        pricesByTests();
        monthsByTests();
        wrongPlaces();
        news();
        dividing();
        largeDivision();
        divisionOfMillions();
        images();
        imageKeepsNotes();
        CHECK.finish();
    }
}
