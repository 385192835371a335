import java.util.ArrayList;
import java.util.List;
import java.util.function.Predicate;
import java.util.function.Supplier;
import java.util.function.ToLongFunction;

/** "A refused call changes nothing but the tape, which is empty behind each call that takes it." */
public final class RefusedTest {
    private static final Check CHECK = new Check("RefusedTest");
    private static final int MIN = Integer.MIN_VALUE;
    private static final int MAX = Integer.MAX_VALUE;

    private record Refusal(String call, long answer, ToLongFunction<VoyageCompany> made) { }

    private static final List<Refusal> REFUSALS = new ArrayList<>();

    private static void refuse(String call, long answer, ToLongFunction<VoyageCompany> made) {
        REFUSALS.add(new Refusal(call, answer, made));
    }

    private static void refuseFalse(String call, Predicate<VoyageCompany> made) {
        refuse(call, 0, x -> made.test(x) ? 1 : 0);
    }

    /** What shows itself only later: the text on the tape, seeds, letters, counts of bales. */
    private static List<String> later(VoyageCompany x) {
        x.orders(4);
        x.unload(3);
        x.sail(3, 2);
        x.months(8);
        x.divide(0, 7);
        x.months(30);
        return Told.of(x);
    }

    /** Each refusal is held against a twin that has not had the call. */
    private static void check(String scene, Supplier<VoyageCompany> made, int tape) {
        List<String> told = Told.of(made.get());
        List<String> toldLater = later(made.get());
        for (Refusal refusal : REFUSALS) {
            String name = refusal.call + " of a company " + scene;
            VoyageCompany x = made.get();
            CHECK.due(name, refusal.made.applyAsLong(x), refusal.answer);
            same(name, Told.of(x), told);
            CHECK.due("the tape behind " + name, x.end(tape + 1), -1);
            CHECK.due("the tape behind " + name, x.end(tape), tape);
            VoyageCompany y = made.get();
            refusal.made.applyAsLong(y);
            same(name + ", later", later(y), toldLater);
        }
        REFUSALS.clear();
    }

    private static void same(String name, List<String> got, List<String> want) {
        String difference = Told.difference(got, want);
        CHECK.due(name + " changes nothing, but: " + difference, difference == null, true);
    }

    private static void tapeAndOrders(int tape) {
        refuse("end(-1)", -1, x -> x.end(-1));
        refuse("end(min)", -1, x -> x.end(MIN));
        refuse("end(one more)", -1, x -> x.end(tape + 1));
        refuse("end(max)", -1, x -> x.end(MAX));
        refuse("orders(-1)", -2, x -> x.orders(-1));
        refuse("orders(0)", -2, x -> x.orders(0));
        refuse("orders(5)", -2, x -> x.orders(5));
        refuse("fault(2)", -1, x -> x.fault(2));
    }

    private static void markets() {
        refuseFalse("market(0, 1, 5)", x -> x.market(0, 1, 5));
        refuseFalse("market(5, 1, 5)", x -> x.market(5, 1, 5));
        refuseFalse("market(-1, 1, 5)", x -> x.market(-1, 1, 5));
        refuseFalse("market(2, 0, 5)", x -> x.market(2, 0, 5));
        refuseFalse("market(2, 4, 5)", x -> x.market(2, 4, 5));
        refuseFalse("market(2, -1, 5)", x -> x.market(2, -1, 5));
        refuseFalse("market(2, 1, 0)", x -> x.market(2, 1, 0));
        refuseFalse("market(2, 1, 1001)", x -> x.market(2, 1, 1001));
        refuseFalse("market(2, 1, min)", x -> x.market(2, 1, MIN));
    }

    private static void ships() {
        refuse("ship(0, 0, 0, 0)", -1, x -> x.ship(0, 0, 0, 0));
        refuse("ship(501, 0, 0, 0)", -1, x -> x.ship(501, 0, 0, 0));
        refuse("ship(1, -1, 0, 0)", -1, x -> x.ship(1, -1, 0, 0));
        refuse("ship(1, 51, 0, 0)", -1, x -> x.ship(1, 51, 0, 0));
        refuse("ship(1, 0, -1, 0)", -1, x -> x.ship(1, 0, -1, 0));
        refuse("ship(1, 0, 100, 0)", -1, x -> x.ship(1, 0, 100, 0));
    }

    private static void letters() {
        refuse("letter(0, 5)", -1, x -> x.letter(0, 5));
        refuse("letter(5, 5)", -1, x -> x.letter(5, 5));
        refuse("letter(-1, 5)", -1, x -> x.letter(-1, 5));
        refuse("letter(4, 0)", -1, x -> x.letter(4, 0));
        refuse("letter(4, -1)", -1, x -> x.letter(4, -1));
        refuse("letter(4, 10000)", -1, x -> x.letter(4, 10000));
    }

    private static void shares() {
        refuse("subscribe(-1, 1)", -1, x -> x.subscribe(-1, 1));
        refuse("subscribe(10, 1)", -1, x -> x.subscribe(10, 1));
        refuse("subscribe(0, 0)", -1, x -> x.subscribe(0, 0));
        refuse("subscribe(0, -1)", -1, x -> x.subscribe(0, -1));
        refuse("subscribe(0, 1001)", -1, x -> x.subscribe(0, 1001));
        refuse("subscribe(0, max)", -1, x -> x.subscribe(0, MAX));
        refuseFalse("transfer(0, 0, 1)", x -> x.transfer(0, 0, 1));
        refuseFalse("transfer(-1, 0, 1)", x -> x.transfer(-1, 0, 1));
        refuseFalse("transfer(10, 0, 1)", x -> x.transfer(10, 0, 1));
        refuseFalse("transfer(0, -1, 1)", x -> x.transfer(0, -1, 1));
        refuseFalse("transfer(0, 10, 1)", x -> x.transfer(0, 10, 1));
        refuseFalse("transfer(0, 1, 0)", x -> x.transfer(0, 1, 0));
        refuseFalse("transfer(0, 1, -1)", x -> x.transfer(0, 1, -1));
        refuseFalse("transfer(0, 1, one more)", x -> x.transfer(0, 1, x.shares(0) + 1));
        refuseFalse("transfer(2, 0, 1)", x -> x.transfer(2, 0, 1));
    }

    /** Of midway(): ship 0 is at sea, 1 lost, 2 far off, 3 at home with room for 50, and 8 bales of pepper with 1 carried are there. */
    private static void ladingAndSailing() {
        int[] notAtHome = {-1, 0, 1, 2, 4};
        for (int ship : notAtHome) {
            refuse("load of ship " + ship, -1, x -> x.load(ship, 0, 1));
            refuse("unload of ship " + ship, -1, x -> x.unload(ship));
            refuse("sail of ship " + ship, -1, x -> x.sail(ship, 3));
        }
        refuse("load(3, -1, 1)", -1, x -> x.load(3, -1, 1));
        refuse("load(3, 4, 1)", -1, x -> x.load(3, 4, 1));
        refuse("load(3, 1, 0)", -1, x -> x.load(3, 1, 0));
        refuse("load(3, 1, -1)", -1, x -> x.load(3, 1, -1));
        refuse("load(3, 1, the carried one too)", -1, x -> x.load(3, 1, 8));
        refuse("load(3, 0, the carried one too)", -1, x -> x.load(3, 0, x.store(0, 0)));
        refuse("load(3, 2, 1)", -1, x -> x.load(3, 2, 1));
        refuse("sail(3, -1)", -1, x -> x.sail(3, -1));
        refuse("sail(3, 0)", -1, x -> x.sail(3, 0));
        refuse("sail(3, 5)", -1, x -> x.sail(3, 5));
    }

    private static void monthsAndDivisions() {
        refuse("months(0)", -1, x -> x.months(0));
        refuse("months(-1)", -1, x -> x.months(-1));
        refuse("months(61)", -1, x -> x.months(61));
        refuse("months(max)", -1, x -> x.months(MAX));
        refuse("divide(-1, 1)", -1, x -> x.divide(-1, 1));
        refuse("divide(4, 1)", -1, x -> x.divide(4, 1));
        refuse("divide(0, 0)", -1, x -> x.divide(0, 0));
        refuse("divide(0, -1)", -1, x -> x.divide(0, -1));
        refuse("divide(0, max)", -1, x -> x.divide(0, MAX));
        refuse("divide(2, 1)", -1, x -> x.divide(2, 1));
    }

    private static void images() {
        refuseFalse("image(-1)", x -> x.image(-1));
        refuseFalse("image(3)", x -> x.image(3));
        refuseFalse("again(-1)", x -> x.again(-1));
        refuseFalse("again(3)", x -> x.again(3));
        for (int k = 0; k < 3; k++) {
            int image = k;
            refuseFalse("again(" + k + ") without one", x -> x.again(image));
            refuseFalse("no image " + k + " behind refused ones", x -> x.image(3) || x.image(-1) || x.again(image));
        }
    }

    private static void inMidway() {
        int tape = Scenes.MIDWAY_TAPE;
        tapeAndOrders(tape);
        markets();
        ships();
        refuse("a fifth ship", -1, x -> x.ship(10, 0, 0, 0));
        letters();
        shares();
        refuse("subscribe(0, 1) once divided", -1, x -> x.subscribe(0, 1));
        ladingAndSailing();
        monthsAndDivisions();
        refuse("divide(0, the carried one too)", -1, x -> x.divide(0, x.store(0, 0)));
        refuse("divide(1, the carried one too)", -1, x -> x.divide(1, 8));
        images();
        check("midway", () -> Scenes.midway(1, 0), tape);
    }

    /** Shares are not closed yet, and there is but one ship, at home. */
    private static VoyageCompany open() {
        VoyageCompany x = Scenes.company(700);
        x.subscribe(1, 297);
        Check.write(x, "wait;");
        return x;
    }

    private static void inOpenCompany() {
        tapeAndOrders(5);
        ships();
        shares();
        refuse("subscribe(5, one more)", -1, x -> x.subscribe(5, 4));
        refuse("load(1, 0, 1)", -1, x -> x.load(1, 0, 1));
        refuse("sail(1, 1)", -1, x -> x.sail(1, 1));
        refuse("unload(1)", -1, x -> x.unload(1));
        refuse("load(0, 0, one more)", -1, x -> x.load(0, 0, 99701));
        refuse("divide(0, one more)", -1, x -> x.divide(0, 99701));
        monthsAndDivisions();
        images();
        check("that is open", RefusedTest::open, 5);
    }

    private static VoyageCompany inHomewardMonth() {
        VoyageCompany x = open();
        x.months(3);
        return x;
    }

    private static void inMonthThatDoesNotLetIt() {
        refuse("sail(0, 1) in month 3", -1, x -> x.sail(0, 1));
        check("in month 3", RefusedTest::inHomewardMonth, 5);
    }

    private static VoyageCompany withFullTape() {
        VoyageCompany x = open();
        x.end(0);
        Check.write(x, "wait;" + " ".repeat(476));
        return x;
    }

    private static void withTapeOf481() {
        refuse("feed", -1, x -> x.feed(0x77616974, 0x3b202020, -1, 0, 1));
        check("with a tape of 481 bytes", RefusedTest::withFullTape, 481);
    }

    private static VoyageCompany withFullShip() {
        VoyageCompany x = Scenes.homeWithPepper(60);
        x.unload(0);
        x.ship(59, 0, 0, 1);
        x.load(1, 1, 30);
        x.load(1, 0, 7);
        return x;
    }

    private static void withoutRoom() {
        refuse("load(1, 1, one more than room)", -1, x -> x.load(1, 1, 30));
        check("with a full ship", RefusedTest::withFullShip, 0);
    }

    private static VoyageCompany late() {
        VoyageCompany x = open();
        for (int i = 0; i < 9; i++) {
            x.months(60);
        }
        x.months(22);
        return x;
    }

    private static void nearTheEnd() {
        refuse("months(39) in month 562", -1, x -> x.months(39));
        refuse("months(60) in month 562", -1, x -> x.months(60));
        check("in month 562", RefusedTest::late, 5);
    }

    private static void withoutShares() {
        refuse("divide(0, 1) without shares", -1, x -> x.divide(0, 1));
        refuseFalse("transfer without shares", x -> x.transfer(0, 1, 1));
        check("without shares", VoyageCompany::new, 0);
    }

    /** orders() with a FAULT take the tape and tell of the FAULT; nothing else changes. */
    private static void ordersWithFault() {
        String[] texts = {"wait;wait", "sail 5;", "wait;".repeat(17)};
        for (String text : texts) {
            for (int port = 1; port <= 4; port++) {
                VoyageCompany x = Scenes.midway(1, 0);
                VoyageCompany twin = Scenes.midway(1, 0);
                x.end(0);
                twin.end(0);
                CHECK.due("orders of '" + text + "'", Check.instruct(x, port, text), -1);
                CHECK.due("no tape behind them", x.end(1), -1);
                same("faulty orders of port " + port, later(x), later(twin));
            }
        }
    }

    public static void main(String[] args) {
        inMidway();
        inOpenCompany();
        inMonthThatDoesNotLetIt();
        withTapeOf481();
        withoutRoom();
        nearTheEnd();
        withoutShares();
        ordersWithFault();
        CHECK.finish();
    }
}
