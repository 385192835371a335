/** Companies that the tests begin with. */
final class Scenes {
    static final int MIDWAY_TAPE = 23;

    private Scenes() {
    }

    /** A company with n shares of person 0, and a ship of hold 100 that will not be lost. */
    static VoyageCompany company(int n) {
        VoyageCompany x = new VoyageCompany();
        x.subscribe(0, n);
        x.ship(100, 0, 0, 1);
        return x;
    }

    /** A company whose ship 0 brought so much coin to a port; the month is the one after it was unloaded. */
    static VoyageCompany coinAt(int port, int coin) {
        VoyageCompany x = company(1000);
        x.load(0, 0, coin);
        x.sail(0, port);
        Check.instruct(x, port, "unload;");
        x.months(2 * port + 1);
        return x;
    }

    /** Ship 0 sailed to port 1 with coin, and is at home with pepper of its cargo in month 11. */
    static VoyageCompany homeWithPepper(int bales) {
        VoyageCompany x = coinAt(1, 90000);
        Check.instruct(x, 1, "if pepper=0 and ships=1:buy pepper " + bales + ";if room>" + (100 - bales) + ":load pepper 500;sail 0;");
        x.months(8);
        return x;
    }

    /** An own text for one month: the factor does it, and a month is over. */
    static void order(VoyageCompany x, int port, String text) {
        Check.instruct(x, port, text);
        x.months(1);
    }

    /** A company without shares whose only ship lies at a far port since the month began that comes next. */
    static VoyageCompany shipAt(int port, int hold, int licence) {
        VoyageCompany x = new VoyageCompany();
        x.ship(hold, licence, 0, 1);
        x.sail(0, port);
        x.months(2 * port);
        return x;
    }

    /**
     * Month 9, with something of each kind. With seed 1 and risk 0 ship 0 is at sea with pepper and coin, ship 1 is lost,
     * ship 2 is at port 2, and ship 3 at home with own bales; other seeds and risks may lose others of them, too.
     * Coin and pepper were divided and are carried in part, letters came and others are under way,
     * the latest orders had a fault, and a text of MIDWAY_TAPE bytes is on the tape.
     */
    static VoyageCompany midway(int seed, int risk) {
        VoyageCompany x = new VoyageCompany();
        bringMidway(x, seed, risk);
        return x;
    }

    /** Makes a new one such a company. */
    static void bringMidway(VoyageCompany x, int seed, int risk) {
        x.subscribe(0, 700);
        x.subscribe(1, 197);
        x.ship(40, 6, risk, seed);
        x.ship(30, 5, 99, seed);
        x.ship(20, 4, risk, seed + 1);
        x.ship(60, 7, risk, seed + 2);
        for (int i = 0; i < 4; i++) {
            x.load(i, 0, 1500 + i);
        }
        x.sail(0, 1);
        x.sail(1, 4);
        x.sail(2, 2);
        x.sail(3, 1);
        x.market(1, 1, 7);
        x.market(2, 1, 12);
        x.letter(2, 60);
        x.letter(4, 80);
        Check.instruct(x, 1, "if coin=0:unload;if month=3:buy pepper 25;if month=4:load pepper 20;sail 0;");
        Check.instruct(x, 2, "if coin=0:unload;if pepper<9:buy pepper 25;if month=11:sail 3;sell pepper 4;");
        x.months(8);
        x.letter(4, 81);
        x.months(1);
        x.unload(0);
        x.load(0, 1, 5);
        x.load(0, 0, 500);
        x.load(3, 1, 3);
        x.transfer(0, 9, 150);
        x.divide(0, 11);
        x.divide(1, 5);
        x.sail(0, 4);
        Check.instruct(x, 1, "sail 9;");
        Check.write(x, "if letter=80:wait;wait;");
    }
}
