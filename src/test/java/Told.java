import java.util.ArrayList;
import java.util.List;
import java.util.function.LongSupplier;

/** All that a company tells, by calls that change nothing: some 210 of them. */
final class Told {
    private final List<String> rows = new ArrayList<>();

    private Told() {
    }

    private void add(String call, LongSupplier answer) {
        rows.add(call + " = " + answer.getAsLong());
    }

    static List<String> of(VoyageCompany x) {
        Told told = new Told();
        told.addNumbers(x);
        told.addPorts(x);
        told.addShips(x);
        told.addGoods(x);
        return told.rows;
    }

    /** What was noted of the months up to one: twenty calls for each. */
    static List<String> notes(VoyageCompany x, int from, int to) {
        Told told = new Told();
        for (int month = from; month <= to; month++) {
            told.addNotes(x, month);
        }
        return told.rows;
    }

    private void addNumbers(VoyageCompany x) {
        for (int i = 0; i < 4; i++) {
            int what = i;
            add("count(" + what + ")", () -> x.count(what));
        }
        add("fault(0)", () -> x.fault(0));
        add("fault(1)", () -> x.fault(1));
        for (int i = 0; i < 10; i++) {
            int person = i;
            add("shares(" + person + ")", () -> x.shares(person));
        }
    }

    private void addPorts(VoyageCompany x) {
        for (int p = 0; p < 5; p++) {
            int port = p;
            for (int g = 0; g < 4; g++) {
                int good = g;
                add("store(" + port + ", " + good + ")", () -> x.store(port, good));
                add("known(" + port + ", " + good + ")", () -> x.known(port, good));
                if (port > 0 && good > 0) {
                    add("price(" + port + ", " + good + ")", () -> x.price(port, good));
                }
            }
            for (int i = 0; i < 3 && port > 0; i++) {
                int what = i;
                add("factor(" + port + ", " + what + ")", () -> x.factor(port, what));
            }
        }
        addNotes(x, x.count(0) - 1);
    }

    private void addNotes(VoyageCompany x, int month) {
        for (int p = 0; p < 5; p++) {
            for (int g = 0; g < 4; g++) {
                int port = p;
                int good = g;
                add("noted(" + port + ", " + good + ", " + month + ")", () -> x.noted(port, good, month));
            }
        }
    }

    private void addShips(VoyageCompany x) {
        int[] whats = {0, 1, 2, 3, 4, 5, 10, 11, 12, 13};
        for (int s = 0; s < 4; s++) {
            int ship = s;
            for (int what : whats) {
                add("tell(" + ship + ", " + what + ")", () -> x.tell(ship, what));
            }
        }
    }

    private void addGoods(VoyageCompany x) {
        for (int g = 0; g < 4; g++) {
            int good = g;
            add("carried(" + good + ")", () -> x.carried(good));
            for (int i = 0; i < 7; i++) {
                int what = i;
                add("sum(" + good + ", " + what + ")", () -> x.sum(good, what));
            }
            for (int i = 0; i < 10; i++) {
                int person = i;
                add("got(" + person + ", " + good + ")", () -> x.got(person, good));
            }
        }
    }

    /** The first row in which two differ, or null. */
    static String difference(List<String> got, List<String> want) {
        for (int i = 0; i < Math.max(got.size(), want.size()); i++) {
            String a = i < got.size() ? got.get(i) : "nothing";
            String b = i < want.size() ? want.get(i) : "nothing";
            if (!a.equals(b)) {
                return a + ", due is " + b;
            }
        }
        return null;
    }
}
