import java.util.ArrayList;
import java.util.List;
import java.util.Random;

/** Long runs of calls, from seeds written here, on the class and on the model; and the balance of each good. */
public final class ModelTest {
    private static final Check CHECK = new Check("ModelTest");
    private static final int CALLS = 512;
    private static final int RUNS = 1500;

    private final Random random;
    private final VoyageCompany x = new VoyageCompany();
    private final Model model = new Model();
    private final List<String> told = new ArrayList<>();
    private int calls = 0;
    private boolean wrong = false;

    private ModelTest(long seed) {
        random = new Random(seed);
    }

    static long answer(VoyageCompany x, Model.Call call) {
        int[] a = call.args();
        switch (call.name()) {
            case "feed": return x.feed(a[0], a[1], a[2], a[3], a[4]);
            case "end": return x.end(a[0]);
            case "orders": return x.orders(a[0]);
            case "fault": return x.fault(a[0]);
            case "market": return x.market(a[0], a[1], a[2]) ? 1 : 0;
            case "ship": return x.ship(a[0], a[1], a[2], a[3]);
            case "letter": return x.letter(a[0], a[1]);
            case "subscribe": return x.subscribe(a[0], a[1]);
            case "transfer": return x.transfer(a[0], a[1], a[2]) ? 1 : 0;
            case "shares": return x.shares(a[0]);
            case "load": return x.load(a[0], a[1], a[2]);
            case "unload": return x.unload(a[0]);
            case "sail": return x.sail(a[0], a[1]);
            case "months": return x.months(a[0]);
            case "store": return x.store(a[0], a[1]);
            case "price": return x.price(a[0], a[1]);
            case "tell": return x.tell(a[0], a[1]);
            case "factor": return x.factor(a[0], a[1]);
            case "known": return x.known(a[0], a[1]);
            case "noted": return x.noted(a[0], a[1], a[2]);
            case "sum": return x.sum(a[0], a[1]);
            case "divide": return x.divide(a[0], a[1]);
            case "got": return x.got(a[0], a[1]);
            case "carried": return x.carried(a[0]);
            case "count": return x.count(a[0]);
            case "image": return x.image(a[0]) ? 1 : 0;
            case "again": return x.again(a[0]) ? 1 : 0;
            default: throw new IllegalArgumentException(call.name());
        }
    }

    private long call(String name, int... args) {
        Model.Call call = new Model.Call(name, args);
        long got = answer(x, call);
        calls++;
        if (!wrong) {
            long want = model.answer(call);
            told.add(call + " -> " + got);
            wrong = got != want;
            if (wrong) {
                CHECK.due(call + " behind " + told, got, want);
            }
        }
        return got;
    }

    /** Mostly a number between two bounds, now and then one just outside, or far off. */
    private int near(int low, int high) {
        int kind = random.nextInt(40);
        if (kind == 0) {
            return low - 1;
        }
        if (kind == 1) {
            return high + 1;
        }
        if (kind == 2) {
            return random.nextInt();
        }
        return low + random.nextInt(high - low + 1);
    }

    private String pick(String... words) {
        return words[random.nextInt(words.length)];
    }

    private String blank() {
        return pick("", "", " ", "\n", "  ");
    }

    private String bales() {
        return pick("pepper", "cloth", "silk");
    }

    private String test() {
        String what = pick("month", "letter", "ships", "room", "coin", bales(), "price " + bales());
        int number = random.nextInt(what.equals("month") ? 13 : what.equals("ships") ? 3 : random.nextInt(4) == 0 ? 2000 : 20);
        return what + blank() + pick("<", ">", "=") + blank() + number;
    }

    private String act() {
        String amount = bales() + " " + random.nextInt(random.nextInt(5) == 0 ? 99999 : 60);
        return pick("buy " + amount, "sell " + amount, "load " + amount, "unload", "wait",
                "pay " + random.nextInt(random.nextInt(5) == 0 ? 99999 : 500), "sail " + random.nextInt(5), "sail 0",
                random.nextInt(30) == 0 ? "sail 5" : "unload");
    }

    private String text() {
        StringBuilder text = new StringBuilder();
        int lines = random.nextInt(40) == 0 ? 17 : 1 + random.nextInt(7);
        for (int i = 0; i < lines; i++) {
            if (random.nextInt(5) != 0) {
                int tests = random.nextInt(60) == 0 ? 5 : 1 + random.nextInt(2);
                text.append("if ").append(test());
                for (int t = 1; t < tests; t++) {
                    text.append(" and ").append(test());
                }
                text.append(blank()).append(":");
            }
            text.append(blank()).append(act()).append(blank()).append(";").append(blank());
        }
        if (random.nextInt(5) == 0 && text.length() > 0) {
            spoil(text);
        }
        return text.length() > 500 ? text.substring(0, 500) : text.toString();
    }

    private void spoil(StringBuilder text) {
        int at = random.nextInt(text.length());
        switch (random.nextInt(3)) {
            case 0: text.deleteCharAt(at); break;
            case 1: text.insert(at, pick(":", ";", " ", "1", "123456", "if", "and", "silk", "<", "?", "\t", "\u00e9")); break;
            default: text.setLength(at); break;
        }
    }

    private void instruct() {
        write(text());
        if (random.nextInt(8) == 0) {
            call("image", near(0, 2));
        }
        call("orders", near(1, 4));
        call("fault", 0);
        call("fault", 1);
    }

    /** The balance: what came in of a good is somewhere. */
    private void balance() {
        for (int good = 0; good < 4; good++) {
            long in = call("sum", good, 0);
            long there = 0;
            for (int what = 1; what <= 6; what++) {
                there += call("sum", good, what);
            }
            CHECK.due("balance of good " + good, there, in);
        }
    }

    private void look() {
        switch (random.nextInt(14)) {
            case 0: call("shares", near(0, 9)); break;
            case 1: call("store", near(0, 4), near(0, 3)); break;
            case 2: call("price", near(1, 4), near(1, 3)); break;
            case 3:
            case 4: call("tell", near(0, 3), near(0, 13)); break;
            case 5: call("factor", near(1, 4), near(0, 2)); break;
            case 6: call("known", near(0, 4), near(0, 3)); break;
            case 7: call("noted", near(0, 4), near(0, 3), near(0, Math.max(1, x.count(0)))); break;
            case 8: call("sum", near(0, 3), near(0, 6)); break;
            case 9: call("got", near(0, 9), near(0, 3)); break;
            case 10: call("carried", near(0, 3)); break;
            case 11: call("count", near(0, 3)); break;
            case 12: call("fault", near(0, 1)); break;
            default: call("store", near(1, 4), 0); break;
        }
    }

    private void change() {
        switch (random.nextInt(16)) {
            case 0: call("subscribe", near(0, 9), near(1, 120)); break;
            case 1: call("transfer", near(0, 9), near(0, 9), near(1, 30)); break;
            case 2: call("ship", near(1, random.nextInt(3) == 0 ? 500 : 40), near(0, 50), near(0, random.nextInt(2) == 0 ? 99 : 9), random.nextInt()); break;
            case 3: call("letter", near(1, 4), near(1, random.nextInt(3) == 0 ? 9999 : 20)); break;
            case 4:
            case 5: call("load", near(0, 3), 0, near(1, 9000)); break;
            case 6: call("load", near(0, 3), near(0, 3), near(1, 30)); break;
            case 7:
                for (int ship = 0; ship < 4; ship++) {
                    call("unload", ship);
                }
                call("divide", near(1, 3), near(1, 9));
                break;
            case 8:
            case 9: call("sail", near(0, 3), near(1, 4)); break;
            case 10: call("market", near(1, 4), near(1, 3), near(1, random.nextInt(3) == 0 ? 1000 : 12)); break;
            case 11: if (calls > 150 || random.nextInt(9) == 0) call("divide", near(0, 3), near(1, 50)); break;
            case 12: if (random.nextInt(3) == 0) call("image", near(0, 2)); break;
            case 13: if (random.nextInt(3) == 0) call("again", near(0, 2)); break;
            case 14: if (random.nextInt(4) == 0) call("months", near(1, 60)); break;
            default: call("months", near(1, 3)); break;
        }
    }

    private void write(String text) {
        byte[] bytes = Check.bytes(text);
        call("end", 0);
        for (int i = 0; i < bytes.length; i += 20) {
            call("feed", Check.word(bytes, i), Check.word(bytes, i + 4), Check.word(bytes, i + 8),
                    Check.word(bytes, i + 12), Check.word(bytes, i + 16));
        }
        call("end", bytes.length);
    }

    /** Ships with coin are on their way and factors wait for them, or else few runs would come to trade. */
    private void setOut() {
        call("subscribe", 0, 1 + random.nextInt(900));
        call("subscribe", near(1, 9), near(1, 100));
        int ships = 1 + random.nextInt(3);
        for (int i = 0; i < ships; i++) {
            int port = 1 + random.nextInt(4);
            call("ship", near(1, 300), near(0, 50), random.nextInt(random.nextInt(2) == 0 ? 100 : 10), random.nextInt());
            call("load", i, 0, near(1, 20000));
            call("sail", i, port);
            String good = bales();
            write("if ships>0 and coin=0:unload;if ships>0 and room<" + random.nextInt(300) + ":sail 0;if month>" + (3 + random.nextInt(9)) + ":sell " + good + " " + random.nextInt(40) + ";if " + good + "<" + random.nextInt(90) + ":buy " + good + " " + random.nextInt(90)
                    + ";if room>" + random.nextInt(90) + ":load " + good + " " + random.nextInt(90) + ";" + act() + ";sail 0;");
            call("orders", port);
        }
    }

    private void run() {
        if (random.nextInt(4) != 0) {
            setOut();
        }
        while (calls < CALLS - 80 && !wrong) {
            int kind = random.nextInt(40);
            if (kind == 0) {
                instruct();
            } else if (kind < 26) {
                change();
            } else {
                look();
            }
        }
        balance();
    }

    public static void main(String[] args) {
        int[] reached = new int[7];

        for (int seed = 0; seed < RUNS && CHECK.wrong() == 0; seed++) {
            ModelTest test = new ModelTest(seed);
            test.run();
            for (int what = 0; what < 7; what++) {
                reached[what] += test.x.sum(1, what) + test.x.sum(2, what) + test.x.sum(3, what) > 0 ? 1 : 0;
            }
        }
        for (int what = 0; what < 7 && CHECK.wrong() == 0; what++) {
            CHECK.due("runs that reach bales of sum " + what, reached[what] > RUNS / 50, true);
        }
        CHECK.finish();
    }
}
