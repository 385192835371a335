/** A joint stock company that sends ships to far ports, month by month; ../shared/DOC.md says what it promises. */
public final class VoyageCompany {
    public static final int NONE = -1;

    private static final int NO_PORT_FOR_ORDERS = -2;
    private static final int NOTHING_TO_TELL = -9;

    private static final int PORTS = 5;
    private static final int HOME = 0;
    private static final int GOODS = 4;
    private static final int COIN = 0;
    private static final int PEPPER = 1;
    private static final int MOST_SHIPS = 4;
    private static final int PERSONS = 10;
    private static final int IMAGES = 3;

    private static final int MOST_MONTHS = 600;
    private static final int MONTHS_AT_ONCE = 60;
    private static final int YEAR = 12;
    private static final int LETTER_MONTHS = 3;
    private static final int SAIL_MONTHS = 2;
    /** A letter is under way for at most 12 months, so each of 13 months ahead has a slot of its own. */
    private static final int POST_SLOTS = 13;

    private static final int MOST_SHARES = 1000;
    private static final int COIN_FOR_SHARE = 100;
    private static final int FIRST_BASE = 10;
    private static final int MOST_BASE = 1000;
    private static final int MOST_HOLD = 500;
    private static final int MOST_LICENCE = 50;
    private static final int MOST_RISK = 99;
    private static final int MOST_LETTER = 9999;

    private static final int AT_SEA = -1;
    private static final int LOST = -2;

    private static final int TAPE_BYTES = 500;
    private static final int FED_BYTES = 20;
    private static final int MOST_LINES = 16;
    private static final int MOST_TESTS = 4;
    private static final int MOST_DIGITS = 5;

    private static final int FAULT_TEXT = 1;
    private static final int FAULT_PORT = 2;
    private static final int FAULT_TOO_MANY = 3;

    private static final int TOKEN_END = 0;
    private static final int TOKEN_BAD = 1;
    private static final int TOKEN_NUMBER = 2;
    private static final int TOKEN_COLON = 3;
    private static final int TOKEN_STOP = 4;
    private static final int TOKEN_BELOW = 5;
    private static final int TOKEN_ABOVE = 6;
    private static final int TOKEN_SAME = 7;
    private static final int WORD_IF = 8;
    private static final int WORD_AND = 9;
    private static final int WORD_MONTH = 10;
    private static final int WORD_LETTER = 11;
    private static final int WORD_SHIPS = 12;
    private static final int WORD_ROOM = 13;
    private static final int WORD_PRICE = 14;
    /** The words of the goods stand in the goods' order, so that a good is its word less this one. */
    private static final int WORD_COIN = 15;
    private static final int WORD_PEPPER = 16;
    private static final int WORD_CLOTH = 17;
    private static final int WORD_SILK = 18;
    private static final int WORD_BUY = 19;
    private static final int WORD_SELL = 20;
    private static final int WORD_LOAD = 21;
    private static final int WORD_PAY = 22;
    private static final int WORD_UNLOAD = 23;
    private static final int WORD_SAIL = 24;
    private static final int WORD_WAIT = 25;

    private static final int WHAT_MONTH = 0;
    private static final int WHAT_LETTER = 1;
    private static final int WHAT_SHIPS = 2;
    private static final int WHAT_ROOM = 3;
    private static final int WHAT_STORE = 4;
    private static final int WHAT_PRICE = 8;

    private static final int DUE_LINE = 0;
    private static final int DUE_WHAT = 1;
    private static final int DUE_PRICED_GOOD = 2;
    private static final int DUE_COMPARISON = 3;
    private static final int DUE_TEST_NUMBER = 4;
    private static final int DUE_AND_OR_COLON = 5;
    private static final int DUE_ACT = 6;
    private static final int DUE_ACT_GOOD = 7;
    private static final int DUE_ACT_NUMBER = 8;
    private static final int DUE_STOP = 9;
    private static final int STUCK = 10;

    private static final int SUM_IN = 0;
    private static final int SUM_STORES = 1;
    private static final int SUM_SHIPS = 2;
    private static final int SUM_OUT = 3;
    private static final int SUM_LOST = 4;
    private static final int SUM_DIVIDED = 5;
    private static final int SUM_MASTERS = 6;
    private static final int SUMS = 7;

    private final Company now;
    private final Company[] images;
    private final Reader reader;

    public VoyageCompany() {
        now = new Company();
        images = new Company[IMAGES];
        reader = new Reader();
    }

    public int feed(int a, int b, int c, int d, int e) {
        Tape tape = now.tape;
        if (tape.length + FED_BYTES > TAPE_BYTES) {
            return NONE;
        }
        tape.append(a);
        tape.append(b);
        tape.append(c);
        tape.append(d);
        tape.append(e);
        return tape.length;
    }

    public int end(int n) {
        if (n < 0 || n > now.tape.length) {
            return NONE;
        }
        now.tape.length = n;
        return n;
    }

    public int orders(int port) {
        if (!isFarPort(port)) {
            return NO_PORT_FOR_ORDERS;
        }
        reader.read(now.tape);
        now.tape.length = 0;
        now.fault = reader.fault;
        now.faultPlace = reader.place;
        if (reader.fault != 0) {
            return NONE;
        }
        now.ports[port].orders.copyFrom(reader.draft);
        return reader.draft.lines;
    }

    public int fault(int what) {
        switch (what) {
            case 0: return now.fault;
            case 1: return now.faultPlace;
            default: return NONE;
        }
    }

    public boolean market(int port, int good, int base) {
        if (!isMarket(port, good) || base < 1 || base > MOST_BASE) {
            return false;
        }
        Market market = now.ports[port].markets[good];
        market.base = base;
        market.price = base;
        return true;
    }

    public int ship(int hold, int licence, int risk, int seed) {
        boolean fits = hold >= 1 && hold <= MOST_HOLD
                && licence >= 0 && licence <= MOST_LICENCE
                && risk >= 0 && risk <= MOST_RISK;
        if (!fits || now.shipCount >= MOST_SHIPS) {
            return NONE;
        }
        int number = now.shipCount;
        Ship ship = now.ships[number];
        ship.hold = hold;
        ship.licence = licence;
        ship.risk = risk;
        ship.seed = seed;
        now.shipCount++;
        return number;
    }

    public int letter(int port, int number) {
        if (!isFarPort(port) || number < 1 || number > MOST_LETTER) {
            return NONE;
        }
        int comes = now.month + LETTER_MONTHS * port;
        now.ports[port].post[comes % POST_SLOTS] = number;
        return comes;
    }

    public int subscribe(int person, int n) {
        Stock stock = now.stock;
        if (!isPerson(person) || n < 1 || n > MOST_SHARES - stock.total || stock.wasDivided) {
            return NONE;
        }
        stock.held[person] += n;
        stock.total += n;
        int coin = n * COIN_FOR_SHARE;
        now.ports[HOME].store[COIN] += coin;
        now.books.enter(COIN, SUM_IN, coin);
        return stock.held[person];
    }

    public boolean transfer(int from, int to, int n) {
        if (!isPerson(from) || !isPerson(to) || from == to || n < 1) {
            return false;
        }
        int[] held = now.stock.held;
        if (held[from] < n) {
            return false;
        }
        held[from] -= n;
        held[to] += n;
        return true;
    }

    public int shares(int person) {
        return isPerson(person) ? now.stock.held[person] : NONE;
    }

    public int load(int ship, int good, int n) {
        if (!now.isShipAtHome(ship) || !isGood(good) || n < 1 || n > now.freeAtHome(good)) {
            return NONE;
        }
        Ship loaded = now.ships[ship];
        if (good != COIN && n > loaded.room()) {
            return NONE;
        }
        now.ports[HOME].store[good] -= n;
        loaded.cargo[good] += n;
        return loaded.cargo[good];
    }

    public int unload(int ship) {
        if (!now.isShipAtHome(ship)) {
            return NONE;
        }
        Ship unloaded = now.ships[ship];
        int bales = unloaded.bales();
        unloaded.discharge(now.ports[HOME].store);
        now.books.enter(PEPPER, SUM_MASTERS, unloaded.own);
        unloaded.own = 0;
        return bales;
    }

    public int sail(int ship, int port) {
        if (!now.isShipAtHome(ship) || !isFarPort(port) || !now.windsAllow(HOME, port)) {
            return NONE;
        }
        Ship sailing = now.ships[ship];
        sailing.leaveFor(port, now.month);
        return sailing.due;
    }

    public int months(int n) {
        if (n < 1 || n > MONTHS_AT_ONCE || now.month + n > MOST_MONTHS) {
            return NONE;
        }
        for (int i = 0; i < n; i++) {
            now.passMonth();
        }
        return now.month;
    }

    public int store(int port, int good) {
        return isPort(port) && isGood(good) ? now.ports[port].store[good] : NONE;
    }

    public int price(int port, int good) {
        return isMarket(port, good) ? now.ports[port].markets[good].price : NONE;
    }

    public int tell(int ship, int what) {
        if (ship < 0 || ship >= now.shipCount) {
            return NOTHING_TO_TELL;
        }
        Ship told = now.ships[ship];
        boolean atSea = told.place == AT_SEA;
        switch (what) {
            case 0: return told.place;
            case 1: return atSea ? told.target : NONE;
            case 2: return atSea ? told.due : NONE;
            case 3: return told.room();
            case 4: return told.own;
            case 5: return told.voyages;
            case 10:
            case 11:
            case 12:
            case 13: return told.cargo[what - 10];
            default: return NOTHING_TO_TELL;
        }
    }

    public int factor(int port, int what) {
        if (!isFarPort(port)) {
            return NONE;
        }
        Port told = now.ports[port];
        switch (what) {
            case 0: return told.orders.lines;
            case 1: return told.lineHeld;
            case 2: return told.lastLetter;
            default: return NONE;
        }
    }

    public int known(int port, int good) {
        if (!isPort(port) || !isGood(good)) {
            return NONE;
        }
        return now.storeBehind(port, good, now.month - 1 - LETTER_MONTHS * port);
    }

    public int noted(int port, int good, int month) {
        if (!isPort(port) || !isGood(good)) {
            return NONE;
        }
        return now.storeBehind(port, good, month);
    }

    public long sum(int good, int what) {
        if (!isGood(good) || what < 0 || what >= SUMS) {
            return NONE;
        }
        switch (what) {
            case SUM_STORES: return now.inStores(good);
            case SUM_SHIPS: return now.inShips(good);
            default: return now.books.entered(good, what);
        }
    }

    public int divide(int good, int n) {
        if (!isGood(good) || now.stock.total < 1 || n < 1 || n > now.freeAtHome(good)) {
            return NONE;
        }
        int given = now.stock.share(good, n);
        now.ports[HOME].store[good] -= given;
        now.books.enter(good, SUM_DIVIDED, given);
        return given;
    }

    public int got(int person, int good) {
        return isPerson(person) && isGood(good) ? now.stock.received[person * GOODS + good] : NONE;
    }

    public int carried(int good) {
        return isGood(good) ? now.stock.aside[good] : NONE;
    }

    public int count(int what) {
        switch (what) {
            case 0: return now.month;
            case 1: return now.shipCount;
            case 2: return now.stock.total;
            case 3: return now.shipsAt(LOST);
            default: return NONE;
        }
    }

    public boolean image(int k) {
        if (k < 0 || k >= IMAGES) {
            return false;
        }
        if (images[k] == null) {
            images[k] = new Company();
        }
        images[k].copyFrom(now);
        return true;
    }

    public boolean again(int k) {
        if (k < 0 || k >= IMAGES || images[k] == null) {
            return false;
        }
        now.copyFrom(images[k]);
        return true;
    }

    private static boolean isPort(int port) {
        return port >= HOME && port < PORTS;
    }

    private static boolean isFarPort(int port) {
        return port > HOME && port < PORTS;
    }

    private static boolean isGood(int good) {
        return good >= COIN && good < GOODS;
    }

    private static boolean isMarket(int port, int good) {
        return isFarPort(port) && isGood(good) && good != COIN;
    }

    private static boolean isPerson(int person) {
        return person >= 0 && person < PERSONS;
    }

    /** All that an image keeps. */
    private static final class Company {
        int month;
        int shipCount;
        int fault;
        int faultPlace;
        final Tape tape;
        final Port[] ports;
        final Ship[] ships;
        final Stock stock;
        final Books books;
        /** Pages are made when their months come: most companies end long before month 600. */
        final Page[] pages;

        Company() {
            faultPlace = NONE;
            tape = new Tape();
            ports = new Port[PORTS];
            for (int i = 0; i < PORTS; i++) {
                ports[i] = new Port(i);
            }
            ships = new Ship[MOST_SHIPS];
            for (int i = 0; i < MOST_SHIPS; i++) {
                ships[i] = new Ship();
            }
            stock = new Stock();
            books = new Books();
            pages = new Page[MOST_MONTHS / Page.MONTHS];
        }

        void copyFrom(Company other) {
            month = other.month;
            shipCount = other.shipCount;
            fault = other.fault;
            faultPlace = other.faultPlace;
            tape.copyFrom(other.tape);
            for (int i = 0; i < PORTS; i++) {
                ports[i].copyFrom(other.ports[i]);
            }
            for (int i = 0; i < MOST_SHIPS; i++) {
                ships[i].copyFrom(other.ships[i]);
            }
            stock.copyFrom(other.stock);
            books.copyFrom(other.books);
            copyPages(other);
        }

        /** Pages behind the month are left as they are: nobody reads them before they are written anew. */
        private void copyPages(Company other) {
            for (int i = 0; i < pages.length && i * Page.MONTHS < month; i++) {
                if (other.pages[i] != null) {
                    pageOf(i).copyFrom(other.pages[i]);
                }
            }
        }

        private Page pageOf(int number) {
            if (pages[number] == null) {
                pages[number] = new Page();
            }
            return pages[number];
        }

        boolean isShipAtHome(int number) {
            return number >= 0 && number < shipCount && ships[number].place == HOME;
        }

        int freeAtHome(int good) {
            return ports[HOME].store[good] - stock.aside[good];
        }

        boolean windsAllow(int from, int to) {
            int ofYear = month % YEAR;
            boolean outwards = ofYear >= 9 || ofYear <= 2;
            return to != from && (to > from) == outwards;
        }

        int shipsAt(int place) {
            int found = 0;
            for (int i = 0; i < shipCount; i++) {
                if (ships[i].place == place) {
                    found++;
                }
            }
            return found;
        }

        long inStores(int good) {
            long all = 0;
            for (int i = 0; i < PORTS; i++) {
                all += ports[i].store[good];
            }
            return all;
        }

        long inShips(int good) {
            long all = 0;
            for (int i = 0; i < shipCount; i++) {
                all += ships[i].cargo[good];
                if (good == PEPPER) {
                    all += ships[i].own;
                }
            }
            return all;
        }

        int storeBehind(int port, int good, int monthOver) {
            if (monthOver < 0 || monthOver >= month) {
                return NONE;
            }
            Page page = pages[monthOver / Page.MONTHS];
            return page == null ? NONE : page.notes[Page.placeOf(monthOver, port) + good];
        }

        void passMonth() {
            bringShips();
            bringLetters();
            for (int i = HOME + 1; i < PORTS; i++) {
                obeyOrders(ports[i]);
            }
            for (int i = HOME + 1; i < PORTS; i++) {
                ports[i].settlePrices();
            }
            noteStores();
            month++;
        }

        private void bringShips() {
            for (int i = 0; i < shipCount; i++) {
                Ship ship = ships[i];
                if (ship.place == AT_SEA && ship.due == month) {
                    if (ship.doomed) {
                        writeOff(ship);
                    }
                    ship.place = ship.doomed ? LOST : ship.target;
                }
            }
        }

        private void writeOff(Ship ship) {
            for (int good = 0; good < GOODS; good++) {
                books.enter(good, SUM_LOST, ship.cargo[good]);
                ship.cargo[good] = 0;
            }
            books.enter(PEPPER, SUM_LOST, ship.own);
            ship.own = 0;
        }

        private void bringLetters() {
            int slot = month % POST_SLOTS;
            for (int i = HOME + 1; i < PORTS; i++) {
                int[] post = ports[i].post;
                if (post[slot] != 0) {
                    ports[i].lastLetter = post[slot];
                    post[slot] = 0;
                }
            }
        }

        private void noteStores() {
            int number = month / Page.MONTHS;
            if (number >= pages.length) {
                return;
            }
            int[] notes = pageOf(number).notes;
            for (int i = 0; i < PORTS; i++) {
                System.arraycopy(ports[i].store, 0, notes, Page.placeOf(month, i), GOODS);
            }
        }

        private void obeyOrders(Port port) {
            Ship ship = firstShipAt(port.number);
            port.lineHeld = firstLineThatHolds(port, ship);
            if (port.lineHeld != NONE) {
                obeyLine(port, ship, port.lineHeld);
            }
        }

        private Ship firstShipAt(int port) {
            for (int i = 0; i < shipCount; i++) {
                if (ships[i].place == port) {
                    return ships[i];
                }
            }
            return null;
        }

        private int firstLineThatHolds(Port port, Ship ship) {
            for (int line = 0; line < port.orders.lines; line++) {
                if (lineHolds(port, ship, line)) {
                    return line;
                }
            }
            return NONE;
        }

        private boolean lineHolds(Port port, Ship ship, int line) {
            Orders orders = port.orders;
            for (int i = 0; i < orders.testCounts[line]; i++) {
                int test = Orders.testPlace(line, i);
                int value = valueOf(orders.whats[test], port, ship);
                if (!compares(value, orders.comparisons[test], orders.limits[test])) {
                    return false;
                }
            }
            return true;
        }

        private static boolean compares(int value, int comparison, int limit) {
            switch (comparison) {
                case TOKEN_BELOW: return value < limit;
                case TOKEN_ABOVE: return value > limit;
                default: return value == limit;
            }
        }

        private int valueOf(int what, Port port, Ship ship) {
            if (what >= WHAT_PRICE) {
                return port.markets[what - WHAT_PRICE].price;
            }
            if (what >= WHAT_STORE) {
                return port.store[what - WHAT_STORE];
            }
            switch (what) {
                case WHAT_MONTH: return month % YEAR;
                case WHAT_LETTER: return port.lastLetter;
                case WHAT_SHIPS: return shipsAt(port.number);
                default: return ship == null ? 0 : ship.room();
            }
        }

        private void obeyLine(Port port, Ship ship, int line) {
            int act = port.orders.acts[line];
            int good = port.orders.goods[line];
            int number = port.orders.numbers[line];
            if (act == WORD_BUY) {
                buyBales(port, good, number);
            } else if (act == WORD_SELL) {
                sellBales(port, good, number);
            } else if (ship != null) {
                orderShip(port, ship, act, good, number);
            }
        }

        private void orderShip(Port port, Ship ship, int act, int good, int number) {
            switch (act) {
                case WORD_LOAD:
                    ship.takeIn(port.store, good, Math.min(number, ship.room()));
                    break;
                case WORD_PAY:
                    ship.takeIn(port.store, COIN, number);
                    break;
                case WORD_UNLOAD:
                    ship.discharge(port.store);
                    break;
                case WORD_SAIL:
                    if (windsAllow(port.number, number)) {
                        buyForMaster(port, ship);
                        ship.leaveFor(number, month);
                    }
                    break;
                default:
                    break;
            }
        }

        private void buyBales(Port port, int good, int most) {
            Market market = port.markets[good];
            for (int i = 0; i < most && port.store[COIN] >= market.price; i++) {
                port.store[COIN] -= market.price;
                port.store[good]++;
                books.enter(COIN, SUM_OUT, market.price);
                books.enter(good, SUM_IN, 1);
                market.countBought();
            }
        }

        private void sellBales(Port port, int good, int most) {
            Market market = port.markets[good];
            for (int i = 0; i < most && port.store[good] > 0; i++) {
                port.store[good]--;
                port.store[COIN] += market.price;
                books.enter(good, SUM_OUT, 1);
                books.enter(COIN, SUM_IN, market.price);
                market.countSold();
            }
        }

        private void buyForMaster(Port port, Ship ship) {
            int bales = Math.min(ship.licence - ship.own, ship.room());
            for (int i = 0; i < bales; i++) {
                ship.own++;
                books.enter(PEPPER, SUM_IN, 1);
                port.markets[PEPPER].countBought();
            }
        }
    }

    /** A port's store and markets, and its factor; HOME uses the store alone. */
    private static final class Port {
        final int number;
        final int[] store;
        /** By goods; COIN's is never used. */
        final Market[] markets;
        final Orders orders;
        int lineHeld;
        int lastLetter;
        /** The letter that comes in a month, by the month's rest by 13; 0 is no letter. */
        final int[] post;

        Port(int number) {
            this.number = number;
            store = new int[GOODS];
            markets = new Market[GOODS];
            for (int i = 0; i < GOODS; i++) {
                markets[i] = new Market();
            }
            orders = new Orders();
            lineHeld = NONE;
            post = new int[POST_SLOTS];
        }

        void copyFrom(Port other) {
            System.arraycopy(other.store, 0, store, 0, GOODS);
            for (int i = 0; i < GOODS; i++) {
                markets[i].copyFrom(other.markets[i]);
            }
            orders.copyFrom(other.orders);
            lineHeld = other.lineHeld;
            lastLetter = other.lastLetter;
            System.arraycopy(other.post, 0, post, 0, POST_SLOTS);
        }

        void settlePrices() {
            for (int i = 0; i < GOODS; i++) {
                markets[i].settle();
            }
        }
    }

    private static final class Market {
        private static final int BALES_A_STEP = 10;

        int base;
        int price;
        int bought;
        int sold;

        Market() {
            base = FIRST_BASE;
            price = FIRST_BASE;
        }

        void copyFrom(Market other) {
            base = other.base;
            price = other.price;
            bought = other.bought;
            sold = other.sold;
        }

        void countBought() {
            bought++;
            if (bought % BALES_A_STEP == 0) {
                price++;
            }
        }

        void countSold() {
            sold++;
            if (sold % BALES_A_STEP == 0 && price > 1) {
                price--;
            }
        }

        void settle() {
            price += Integer.compare(base, price);
        }
    }

    private static final class Ship {
        int hold;
        int licence;
        int risk;
        int seed;
        final int[] cargo;
        int own;
        /** A port, AT_SEA or LOST. */
        int place;
        int target;
        int due;
        boolean doomed;
        int voyages;

        Ship() {
            cargo = new int[GOODS];
            place = HOME;
        }

        void copyFrom(Ship other) {
            hold = other.hold;
            licence = other.licence;
            risk = other.risk;
            seed = other.seed;
            System.arraycopy(other.cargo, 0, cargo, 0, GOODS);
            own = other.own;
            place = other.place;
            target = other.target;
            due = other.due;
            doomed = other.doomed;
            voyages = other.voyages;
        }

        int room() {
            int left = hold - own;
            for (int good = PEPPER; good < GOODS; good++) {
                left -= cargo[good];
            }
            return left;
        }

        int bales() {
            return hold - own - room();
        }

        void takeIn(int[] from, int good, int most) {
            int taken = Math.min(most, from[good]);
            from[good] -= taken;
            cargo[good] += taken;
        }

        void discharge(int[] into) {
            for (int good = 0; good < GOODS; good++) {
                into[good] += cargo[good];
                cargo[good] = 0;
            }
        }

        void leaveFor(int port, int month) {
            due = month + SAIL_MONTHS * Math.abs(port - place);
            target = port;
            place = AT_SEA;
            voyages++;
            seed = 1103515245 * seed + 12345;
            doomed = (seed >>> 16) % 100 < risk;
        }
    }

    /** The shares, and what was divided on them. */
    private static final class Stock {
        final int[] held;
        int total;
        boolean wasDivided;
        /** By persons and goods: what is due and not yet whole, counted in parts of which a whole one has as many as there are shares. */
        final int[] rests;
        final int[] received;
        final int[] aside;

        Stock() {
            held = new int[PERSONS];
            rests = new int[PERSONS * GOODS];
            received = new int[PERSONS * GOODS];
            aside = new int[GOODS];
        }

        void copyFrom(Stock other) {
            System.arraycopy(other.held, 0, held, 0, PERSONS);
            total = other.total;
            wasDivided = other.wasDivided;
            System.arraycopy(other.rests, 0, rests, 0, PERSONS * GOODS);
            System.arraycopy(other.received, 0, received, 0, PERSONS * GOODS);
            System.arraycopy(other.aside, 0, aside, 0, GOODS);
        }

        /** Rests stay true from one division to the next, as no shares come in once something was divided. */
        int share(int good, int n) {
            if (total < 1) {
                return 0;
            }
            int given = 0;
            for (int person = 0; person < PERSONS; person++) {
                int place = person * GOODS + good;
                long parts = rests[place] + (long) held[person] * n;
                int whole = (int) (parts / total);
                rests[place] = (int) (parts % total);
                received[place] += whole;
                given += whole;
            }
            aside[good] += n - given;
            wasDivided = true;
            return given;
        }
    }

    /** What came and went of each good since the beginning, by the kinds of sum(). */
    private static final class Books {
        final long[] entries;

        Books() {
            entries = new long[GOODS * SUMS];
        }

        void copyFrom(Books other) {
            System.arraycopy(other.entries, 0, entries, 0, GOODS * SUMS);
        }

        void enter(int good, int kind, int n) {
            entries[good * SUMS + kind] += n;
        }

        long entered(int good, int kind) {
            return entries[good * SUMS + kind];
        }
    }

    /** The stores of all ports as they were noted of some months on end. */
    private static final class Page {
        private static final int MONTHS = 60;

        final int[] notes;

        Page() {
            notes = new int[MONTHS * PORTS * GOODS];
        }

        void copyFrom(Page other) {
            System.arraycopy(other.notes, 0, notes, 0, notes.length);
        }

        static int placeOf(int month, int port) {
            return (month % MONTHS * PORTS + port) * GOODS;
        }
    }

    private static final class Tape {
        final byte[] bytes;
        int length;

        Tape() {
            bytes = new byte[TAPE_BYTES];
        }

        void copyFrom(Tape other) {
            System.arraycopy(other.bytes, 0, bytes, 0, other.length);
            length = other.length;
        }

        void append(int number) {
            for (int shift = 24; shift >= 0 && length < TAPE_BYTES; shift -= 8) {
                bytes[length] = (byte) (number >> shift);
                length++;
            }
        }
    }

    /** The lines of a factor's instructions. */
    private static final class Orders {
        int lines;
        final int[] acts;
        final int[] goods;
        final int[] numbers;
        final int[] testCounts;
        final int[] whats;
        final int[] comparisons;
        final int[] limits;

        Orders() {
            acts = new int[MOST_LINES];
            goods = new int[MOST_LINES];
            numbers = new int[MOST_LINES];
            testCounts = new int[MOST_LINES];
            whats = new int[MOST_LINES * MOST_TESTS];
            comparisons = new int[MOST_LINES * MOST_TESTS];
            limits = new int[MOST_LINES * MOST_TESTS];
        }

        static int testPlace(int line, int test) {
            return line * MOST_TESTS + test;
        }

        void copyFrom(Orders other) {
            lines = other.lines;
            System.arraycopy(other.acts, 0, acts, 0, lines);
            System.arraycopy(other.goods, 0, goods, 0, lines);
            System.arraycopy(other.numbers, 0, numbers, 0, lines);
            System.arraycopy(other.testCounts, 0, testCounts, 0, lines);
            int tests = testPlace(lines, 0);
            System.arraycopy(other.whats, 0, whats, 0, tests);
            System.arraycopy(other.comparisons, 0, comparisons, 0, tests);
            System.arraycopy(other.limits, 0, limits, 0, tests);
        }

        void putTest(int line, int test, int what, int comparison, int limit) {
            if (line >= MOST_LINES || test >= MOST_TESTS) {
                return;
            }
            int place = testPlace(line, test);
            whats[place] = what;
            comparisons[place] = comparison;
            limits[place] = limit;
        }

        void putLine(int line, int tests, int act, int good, int number) {
            if (line >= MOST_LINES) {
                return;
            }
            testCounts[line] = Math.min(tests, MOST_TESTS);
            acts[line] = act;
            goods[line] = good;
            numbers[line] = number;
            lines = line + 1;
        }
    }

    /** Goes over a tape token by token. */
    private static final class Tokens {
        private byte[] bytes;
        private int length;
        /** Where the token begins, and where what is behind it does. */
        int at;
        private int behind;
        int code;
        /** Of a NUMBER. */
        int value;

        Tokens() {
            bytes = new byte[0];
        }

        void open(Tape tape) {
            bytes = tape.bytes;
            length = Math.min(tape.length, bytes.length);
            behind = 0;
            step();
        }

        void step() {
            at = behindBlanks(behind);
            if (at >= length) {
                code = TOKEN_END;
                behind = length;
            } else if (isDigit(bytes[at])) {
                behind = behindDigits(at);
                readNumber();
            } else if (isLetter(bytes[at])) {
                behind = behindLetters(at);
                code = wordCode();
            } else {
                behind = at + 1;
                code = signCode(bytes[at]);
            }
        }

        private int behindBlanks(int from) {
            int i = from;
            while (i < length && (bytes[i] == 10 || bytes[i] == 32)) {
                i++;
            }
            return i;
        }

        private int behindDigits(int from) {
            int i = from;
            while (i < length && isDigit(bytes[i])) {
                i++;
            }
            return i;
        }

        private int behindLetters(int from) {
            int i = from;
            while (i < length && isLetter(bytes[i])) {
                i++;
            }
            return i;
        }

        private static boolean isDigit(int b) {
            return b >= '0' && b <= '9';
        }

        private static boolean isLetter(int b) {
            return b >= 'a' && b <= 'z';
        }

        private void readNumber() {
            value = 0;
            code = behind - at <= MOST_DIGITS ? TOKEN_NUMBER : TOKEN_BAD;
            for (int i = at; i < behind && code == TOKEN_NUMBER; i++) {
                value = value * 10 + bytes[i] - '0';
            }
        }

        private static int signCode(int sign) {
            switch (sign) {
                case ':': return TOKEN_COLON;
                case ';': return TOKEN_STOP;
                case '<': return TOKEN_BELOW;
                case '>': return TOKEN_ABOVE;
                case '=': return TOKEN_SAME;
                default: return TOKEN_BAD;
            }
        }

        private int wordCode() {
            if (spells("if")) return WORD_IF;
            if (spells("and")) return WORD_AND;
            if (spells("month")) return WORD_MONTH;
            if (spells("letter")) return WORD_LETTER;
            if (spells("ships")) return WORD_SHIPS;
            if (spells("room")) return WORD_ROOM;
            if (spells("price")) return WORD_PRICE;
            if (spells("coin")) return WORD_COIN;
            if (spells("pepper")) return WORD_PEPPER;
            if (spells("cloth")) return WORD_CLOTH;
            if (spells("silk")) return WORD_SILK;
            if (spells("buy")) return WORD_BUY;
            if (spells("sell")) return WORD_SELL;
            if (spells("load")) return WORD_LOAD;
            if (spells("pay")) return WORD_PAY;
            if (spells("unload")) return WORD_UNLOAD;
            if (spells("sail")) return WORD_SAIL;
            if (spells("wait")) return WORD_WAIT;
            return TOKEN_BAD;
        }

        private boolean spells(String word) {
            if (behind - at != word.length()) {
                return false;
            }
            for (int i = 0; i < word.length(); i++) {
                if (bytes[at + i] != word.charAt(i)) {
                    return false;
                }
            }
            return true;
        }
    }

    /** Reads a tape as instructions; as no part of a text nests, what is due next is all that it must remember. */
    private static final class Reader {
        final Orders draft;
        int fault;
        int place;
        private final Tokens tokens;
        private int line;
        private int tests;
        private int what;
        private int comparison;
        private int act;
        private int good;
        private int number;

        Reader() {
            draft = new Orders();
            tokens = new Tokens();
        }

        void read(Tape tape) {
            fault = 0;
            place = NONE;
            draft.lines = 0;
            line = NONE;
            tokens.open(tape);
            int due = DUE_LINE;
            for (int i = 0; i <= TAPE_BYTES && tokens.code != TOKEN_END && due != STUCK; i++) {
                due = take(due);
                if (due != STUCK) {
                    tokens.step();
                }
            }
            if (due != DUE_LINE) {
                fault = FAULT_TEXT;
                place = tokens.at;
            }
        }

        /** These faults count only if the whole text can be read, and then the first of them does. */
        private void mark(int kind) {
            if (fault == 0) {
                fault = kind;
                place = tokens.at;
            }
        }

        /** Takes the token at hand where something is due, and tells what is due next. */
        private int take(int due) {
            switch (due) {
                case DUE_LINE: return takeLine();
                case DUE_WHAT: return takeWhat();
                case DUE_PRICED_GOOD: return takePricedGood();
                case DUE_COMPARISON: return takeComparison();
                case DUE_TEST_NUMBER: return takeTestNumber();
                case DUE_AND_OR_COLON: return takeAndOrColon();
                case DUE_ACT: return takeAct();
                case DUE_ACT_GOOD: return takeActGood();
                case DUE_ACT_NUMBER: return takeActNumber();
                case DUE_STOP: return takeStop();
                default: return STUCK;
            }
        }

        private int takeLine() {
            line++;
            tests = 0;
            if (line >= MOST_LINES) {
                mark(FAULT_TOO_MANY);
            }
            return tokens.code == WORD_IF ? DUE_WHAT : takeAct();
        }

        private int takeWhat() {
            if (tests >= MOST_TESTS) {
                mark(FAULT_TOO_MANY);
            }
            switch (tokens.code) {
                case WORD_MONTH: what = WHAT_MONTH; return DUE_COMPARISON;
                case WORD_LETTER: what = WHAT_LETTER; return DUE_COMPARISON;
                case WORD_SHIPS: what = WHAT_SHIPS; return DUE_COMPARISON;
                case WORD_ROOM: what = WHAT_ROOM; return DUE_COMPARISON;
                case WORD_PRICE: return DUE_PRICED_GOOD;
                case WORD_COIN:
                case WORD_PEPPER:
                case WORD_CLOTH:
                case WORD_SILK: what = WHAT_STORE + tokens.code - WORD_COIN; return DUE_COMPARISON;
                default: return STUCK;
            }
        }

        private boolean isAtBales() {
            return tokens.code >= WORD_PEPPER && tokens.code <= WORD_SILK;
        }

        private int takePricedGood() {
            if (!isAtBales()) {
                return STUCK;
            }
            what = WHAT_PRICE + tokens.code - WORD_COIN;
            return DUE_COMPARISON;
        }

        private int takeComparison() {
            comparison = tokens.code;
            boolean isComparison = comparison == TOKEN_BELOW || comparison == TOKEN_ABOVE || comparison == TOKEN_SAME;
            return isComparison ? DUE_TEST_NUMBER : STUCK;
        }

        private int takeTestNumber() {
            if (tokens.code != TOKEN_NUMBER) {
                return STUCK;
            }
            draft.putTest(line, tests, what, comparison, tokens.value);
            tests++;
            return DUE_AND_OR_COLON;
        }

        private int takeAndOrColon() {
            switch (tokens.code) {
                case WORD_AND: return DUE_WHAT;
                case TOKEN_COLON: return DUE_ACT;
                default: return STUCK;
            }
        }

        private int takeAct() {
            act = tokens.code;
            good = COIN;
            number = 0;
            switch (act) {
                case WORD_BUY:
                case WORD_SELL:
                case WORD_LOAD: return DUE_ACT_GOOD;
                case WORD_PAY:
                case WORD_SAIL: return DUE_ACT_NUMBER;
                case WORD_UNLOAD:
                case WORD_WAIT: return DUE_STOP;
                default: return STUCK;
            }
        }

        private int takeActGood() {
            if (!isAtBales()) {
                return STUCK;
            }
            good = tokens.code - WORD_COIN;
            return DUE_ACT_NUMBER;
        }

        private int takeActNumber() {
            if (tokens.code != TOKEN_NUMBER) {
                return STUCK;
            }
            number = tokens.value;
            if (act == WORD_SAIL && !isPort(number)) {
                mark(FAULT_PORT);
            }
            return DUE_STOP;
        }

        private int takeStop() {
            if (tokens.code != TOKEN_STOP) {
                return STUCK;
            }
            draft.putLine(line, tests, act, good, number);
            return DUE_LINE;
        }
    }
}
