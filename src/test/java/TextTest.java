/** Promises 2 to 5: the tape, the texts of instructions and their faults. */
public final class TextTest {
    private static final Check CHECK = new Check("TextTest");

    private static void fault(String text, int fault, int place) {
        VoyageCompany x = new VoyageCompany();
        CHECK.due("orders of '" + text + "'", Check.instruct(x, 1, text), -1);
        CHECK.due("fault(0) of '" + text + "'", x.fault(0), fault);
        CHECK.due("fault(1) of '" + text + "'", x.fault(1), place);
        CHECK.due("LINES behind '" + text + "'", x.factor(1, 0), 0);
    }

    private static void good(String text, int lines) {
        VoyageCompany x = new VoyageCompany();
        CHECK.due("orders of '" + text + "'", Check.instruct(x, 4, text), lines);
        CHECK.due("fault(0) of '" + text + "'", x.fault(0), 0);
        CHECK.due("fault(1) of '" + text + "'", x.fault(1), -1);
        CHECK.due("LINES of '" + text + "'", x.factor(4, 0), lines);
    }

    private static String repeat(String text, int n) {
        return text.repeat(n);
    }

    private static void feedAndEnd() {
        VoyageCompany x = new VoyageCompany();
        for (int i = 1; i <= 25; i++) {
            CHECK.due("feed " + i, x.feed(0x20202020, 0x20202020, 0x20202020, 0x20202020, 0x20202020), 20 * i);
        }
        CHECK.due("feed of a full tape", x.feed(1, 2, 3, 4, 5), -1);
        CHECK.due("end(501)", x.end(501), -1);
        CHECK.due("end(-1)", x.end(-1), -1);
        CHECK.due("end(min)", x.end(Integer.MIN_VALUE), -1);
        CHECK.due("end(500)", x.end(500), 500);
        CHECK.due("end(481)", x.end(481), 481);
        CHECK.due("feed beyond 500", x.feed(1, 2, 3, 4, 5), -1);
        CHECK.due("end(482) of 481", x.end(482), -1);
        CHECK.due("end(480)", x.end(480), 480);
        CHECK.due("feed up to 500", x.feed(0x77616974, 0x3b202020, 0x20202020, 0x20202020, 0x20202020), 500);
        CHECK.due("orders of 500 bytes", x.orders(2), 1);
        CHECK.due("end(1) behind orders", x.end(1), -1);
        CHECK.due("end(0) behind orders", x.end(0), 0);
    }

    private static void tapeStaysWithoutPort() {
        VoyageCompany x = new VoyageCompany();
        CHECK.due("fault(0) of a new one", x.fault(0), 0);
        CHECK.due("fault(1) of a new one", x.fault(1), -1);
        CHECK.due("fault(2)", x.fault(2), -1);
        CHECK.due("fault(-1)", x.fault(-1), -1);
        Check.write(x, "foo");
        CHECK.due("orders(0)", x.orders(0), -2);
        CHECK.due("orders(5)", x.orders(5), -2);
        CHECK.due("orders(-1)", x.orders(-1), -2);
        CHECK.due("fault(0) behind -2", x.fault(0), 0);
        CHECK.due("end(3) behind -2", x.end(3), 3);
        CHECK.due("orders(1)", x.orders(1), -1);
        CHECK.due("tape behind a fault", x.end(1), -1);
        CHECK.due("orders(0) again", x.orders(0), -2);
        CHECK.due("fault(0) stays", x.fault(0), 1);
        CHECK.due("fault(1) stays", x.fault(1), 0);
    }

    private static void oldOrdersStayBehindFault() {
        VoyageCompany x = new VoyageCompany();
        Check.instruct(x, 3, "wait;wait;");
        CHECK.due("faulty orders", Check.instruct(x, 3, "wait;wait;wait"), -1);
        CHECK.due("LINES stay", x.factor(3, 0), 2);
        CHECK.due("orders of another port", Check.instruct(x, 2, "wait;"), 1);
        CHECK.due("LINES of 3", x.factor(3, 0), 2);
        CHECK.due("LINES of 2", x.factor(2, 0), 1);
        CHECK.due("fault(0) of the latest", x.fault(0), 0);
        CHECK.due("empty orders", Check.instruct(x, 3, ""), 0);
        CHECK.due("no LINES", x.factor(3, 0), 0);
    }

    private static void goodTexts() {
        good("", 0);
        good(" \n ", 0);
        good("wait;", 1);
        good("\n wait\n;  ", 1);
        good("sail0;sail 1;sail 2;sail 3;sail00004;", 5);
        good("buy pepper 0;sell cloth 99999;load silk 1;pay 00000;unload;", 5);
        good("if month=1and letter<2and ships>3and room=0:wait;", 1);
        good("if coin<1 and pepper>2 and cloth=3 and silk<4:wait;", 1);
        good("if price pepper<1 and price cloth>2 and price silk=3:wait;wait;", 2);
        good(repeat("wait;", 16), 16);
        good(repeat("if room=1 and room=1 and room=1:wait;", 13), 13);
    }

    private static void textFaults() {
        fault("wait", 1, 4);
        fault("wait  ", 1, 6);
        fault(";", 1, 0);
        fault("wait;;", 1, 5);
        fault(" waits;", 1, 1);
        fault("Wait;", 1, 0);
        fault("wait\t;", 1, 4);
        fault("wait\r\n;", 1, 4);
        fault("wait\u00ff;", 1, 4);
        fault("wait\u0000", 1, 4);
        fault("wait 1;", 1, 5);
        fault("buy;", 1, 3);
        fault("buy pepper;", 1, 10);
        fault("buy 3 pepper;", 1, 4);
        fault("load coin 3;", 1, 5);
        fault("sell price silk 3;", 1, 5);
        fault("pay pepper 3;", 1, 4);
        fault("pay 000001;", 1, 4);
        fault("pay 1234567890123;", 1, 4);
        fault("123456", 1, 0);
        fault("pay 1 2;", 1, 6);
        fault("sail;", 1, 4);
        fault("sail -1;", 1, 5);
        fault("unload all;", 1, 7);
        fault("if:wait;", 1, 2);
        fault("if coin:wait;", 1, 7);
        fault("if coin<:wait;", 1, 8);
        fault("if coin<=3:wait;", 1, 8);
        fault("if coin<3 wait;", 1, 10);
        fault("if coin<3 and:wait;", 1, 13);
        fault("if coin<3:;", 1, 10);
        fault("if coin<3:if coin<3:wait;", 1, 10);
        fault("if price coin<3:wait;", 1, 9);
        fault("if price<3:wait;", 1, 8);
        fault("if price price pepper<3:wait;", 1, 9);
        fault("if buy<3:wait;", 1, 3);
        fault("if 3<coin:wait;", 1, 3);
        fault("and coin<3:wait;", 1, 0);
        fault("if coin<3", 1, 9);
        fault("coin<3:wait;", 1, 0);
    }

    private static void laterFaults() {
        fault("sail 5;", 2, 5);
        fault("sail  00005 ;", 2, 6);
        fault("sail 99999;", 2, 5);
        fault("sail 5;sail 6;", 2, 5);
        fault("sail 5;sail", 1, 11);
        fault(repeat("wait;", 16) + " if coin=0:wait;", 3, 81);
        fault(repeat("wait;", 16) + "sail 9;", 3, 80);
        fault(repeat("wait;", 15) + "sail 9;" + "wait;", 2, 80);
        fault(repeat("wait;", 40), 3, 80);
        fault(repeat("wait;", 17) + "wait", 1, 89);
        fault("if room=1 and room=1 and room=1 and room=1 and price silk=1:sail 7;", 3, 47);
        fault("if room=1 and room=1 and room=1 and room=1 and room=1 and room=1:wait;", 3, 47);
        fault("sail 7;if room=1 and room=1 and room=1 and room=1 and room=1:wait;", 2, 5);
        fault("if room=1 and room=1 and room=1 and room=1 and price:wait;", 1, 52);
        fault(repeat("wait;", 100), 3, 80);
    }

    public static void main(String[] args) {
        feedAndEnd();
        tapeStaysWithoutPort();
        oldOrdersStayBehindFault();
        goodTexts();
        textFaults();
        laterFaults();
        CHECK.finish();
    }
}
