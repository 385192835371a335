import java.util.List;

/** Promises 27 and 28: all that is told comes again as it was, and goes on as it would have. */
public final class ImageTest {
    private static final Check CHECK = new Check("ImageTest");
    private static final int[] SEEDS = {1, 4, 5, 9, 12, 77, -3, 1000, 33, 34, 65536, -70000};
    private static final int RISK = 35;

    private static VoyageCompany midway(int seed) {
        return Scenes.midway(seed, RISK);
    }

    /** Changes something of each kind, so that whatever an image leaves out is another one then. */
    private static void upset(VoyageCompany x) {
        x.orders(3);
        for (int port = 1; port <= 4; port++) {
            x.market(port, port % 3 + 1, 100 + port);
            x.letter(port, 500 + port);
            Check.instruct(x, port, "if coin=0:unload;if pepper<5:buy pepper 31;if month>9:sail 4;if silk<7:buy silk 12;if pepper>20:sell pepper 17;sail 0;");
        }
        x.market(1, 1, 3);
        x.market(2, 1, 4);
        x.transfer(0, 5, 33);
        x.divide(0, 1234);
        x.divide(1, 1);
        x.unload(3);
        x.sail(3, 3);
        x.months(47);
        x.unload(0);
        x.ship(1, 2, 3, 4);
        Check.instruct(x, 1, "load load");
        x.feed(1, 2, 3, 4, 5);
        x.months(19);
    }

    /** What shows itself only later: the text on the tape, seeds and risks, letters, counts of bales. */
    private static List<String> later(VoyageCompany x) {
        x.orders(4);
        x.subscribe(0, 1);
        x.sail(3, 2);
        x.months(8);
        x.unload(3);
        x.divide(0, 7);
        x.divide(1, 2);
        Check.instruct(x, 2, "if pepper>0:sell pepper 3;sail 0;");
        Check.instruct(x, 3, "sail 0;");
        Check.instruct(x, 4, "sail 0;");
        x.months(12);
        for (int ship = 0; ship < 4; ship++) {
            x.sail(ship, 1);
        }
        x.months(8);
        return Told.of(x);
    }

    private static void same(String name, List<String> got, List<String> want) {
        String difference = Told.difference(got, want);
        CHECK.due(name + ": " + difference, difference == null, true);
    }

    private static VoyageCompany upsetAndBack(int seed, int k) {
        VoyageCompany x = midway(seed);
        CHECK.due("image", x.image(k), true);
        upset(x);
        CHECK.due("again", x.again(k), true);
        return x;
    }

    private static void allComesAgain() {
        for (int seed : SEEDS) {
            for (int k = 0; k < 3; k++) {
                same("told of image " + k, Told.of(upsetAndBack(seed, k)), Told.of(midway(seed)));
                same("later of image " + k, later(upsetAndBack(seed, k)), later(midway(seed)));
            }
            same("notes", Told.notes(upsetAndBack(seed, 0), 0, 9), Told.notes(midway(seed), 0, 9));
            VoyageCompany x = upsetAndBack(seed, 1);
            CHECK.due("the tape", x.end(Scenes.MIDWAY_TAPE + 1), -1);
            CHECK.due("the tape", x.end(Scenes.MIDWAY_TAPE), Scenes.MIDWAY_TAPE);
        }
    }

    /** Another course of things, up to the same month, with other ships and prices and nothing divided. */
    private static void takeAnotherCourse(VoyageCompany x) {
        x.subscribe(3, 50);
        for (int i = 0; i < 4; i++) {
            x.ship(70 + i, 40, 1 + 20 * i, -5 * i);
            x.load(i, 0, 100);
            x.sail(i, 3);
        }
        x.market(3, 1, 2);
        Check.instruct(x, 3, "if coin=0:unload;buy pepper 9;");
        x.months(9);
    }

    private static VoyageCompany anotherCourseAndBack(int seed) {
        VoyageCompany x = new VoyageCompany();
        x.image(2);
        Scenes.bringMidway(x, seed, RISK);
        x.image(0);
        x.again(2);
        takeAnotherCourse(x);
        CHECK.due("back to midway", x.again(0), true);
        return x;
    }

    /** The company that image k brings again need not be an earlier one of the same course. */
    private static void backFromAnotherCourse() {
        for (int seed : SEEDS) {
            same("told", Told.of(anotherCourseAndBack(seed)), Told.of(midway(seed)));
            same("later", later(anotherCourseAndBack(seed)), later(midway(seed)));
            same("notes", Told.notes(anotherCourseAndBack(seed), 0, 9), Told.notes(midway(seed), 0, 9));
        }
        VoyageCompany x = new VoyageCompany();
        takeAnotherCourse(x);
        x.image(1);
        x.divide(0, 1);
        x.again(1);
        CHECK.due("nothing is divided any more", x.subscribe(3, 1), 51);
    }

    /** Notes of the months that the image had, page by page, though the company has others of the same months by then. */
    private static void notesOfAnotherCourse() {
        VoyageCompany x = Scenes.company(100);
        x.image(0);
        for (int i = 0; i < 25; i++) {
            x.load(0, 0, 10);
            x.months(6);
        }
        x.image(1);
        x.again(0);
        x.load(0, 0, 5000);
        x.months(60);
        x.months(60);
        x.months(40);
        x.again(1);
        for (int month = 0; month < 150; month++) {
            CHECK.due("note of month " + month, x.noted(0, 0, month), 10000 - 10 * (month / 6 + 1));
        }
        CHECK.due("month 150 is not over", x.noted(0, 0, 150), -1);
    }

    /** The bytes on the tape, not their number alone. */
    private static void tapeComesAgain() {
        VoyageCompany x = new VoyageCompany();
        Check.write(x, "wait;wait;");
        x.image(0);
        x.end(0);
        Check.write(x, "?".repeat(60));
        x.again(0);
        CHECK.due("ten bytes", x.end(11), -1);
        CHECK.due("its two lines", x.orders(1), 2);
    }

    /** Nine bales were bought and nine sold: the tenth moves the price, though others were counted before the return. */
    private static void countsOfBalesComeAgain() {
        VoyageCompany x = Scenes.coinAt(1, 10000);
        Scenes.order(x, 1, "buy cloth 9;");
        Scenes.order(x, 1, "sell cloth 9;");
        int coin = x.store(1, 0);
        x.image(0);
        Scenes.order(x, 1, "buy cloth 6;");
        Scenes.order(x, 1, "sell cloth 6;");
        x.again(0);
        Scenes.order(x, 1, "buy cloth 2;");
        CHECK.due("the tenth at 10, the next at 11", coin - x.store(1, 0), 21);
        coin = x.store(1, 0);
        Scenes.order(x, 1, "sell cloth 2;");
        CHECK.due("the tenth at 10, the next at 9", x.store(1, 0) - coin, 19);
    }

    /** A ship with its own numbers, though another one had its place before the return. */
    private static void shipComesAgain() {
        int[][] ships = {{11, 2, 99, 1}, {12, 3, 0, 1}};
        for (int i = 0; i < 2; i++) {
            VoyageCompany x = new VoyageCompany();
            x.image(0);
            x.ship(ships[i][0], ships[i][1], ships[i][2], ships[i][3]);
            x.image(1);
            x.again(0);
            x.ship(ships[1 - i][0], ships[1 - i][1], ships[1 - i][2], ships[1 - i][3]);
            x.again(1);
            CHECK.due("hold", x.tell(0, 3), ships[i][0]);
            x.sail(0, 1);
            Check.instruct(x, 1, "sail 0;");
            x.months(4);
            CHECK.due("lost by its risk", x.tell(0, 0), i == 0 ? -2 : -1);
            CHECK.due("own by its licence", x.tell(0, 4), i == 0 ? 0 : 3);
        }
    }

    /** An image is "as it is now": neither what comes later nor a return to it changes it. */
    private static void imagesStayAsTheyAre() {
        for (int seed : SEEDS) {
            VoyageCompany x = upsetAndBack(seed, 2);
            upset(x);
            CHECK.due("again once more", x.again(2), true);
            same("told once more", Told.of(x), Told.of(midway(seed)));
        }
    }

    /** "(other images stay)" */
    private static void otherImagesStay() {
        VoyageCompany x = new VoyageCompany();
        x.image(1);
        x.subscribe(7, 3);
        x.image(2);
        x.months(5);
        x.image(0);
        CHECK.due("again 2", x.again(2), true);
        CHECK.due("its month", x.count(0), 0);
        CHECK.due("its shares", x.count(2), 3);
        CHECK.due("again 1", x.again(1), true);
        CHECK.due("its shares", x.count(2), 0);
        CHECK.due("again 0", x.again(0), true);
        CHECK.due("its month", x.count(0), 5);
        CHECK.due("its shares", x.shares(7), 3);
        CHECK.due("again 2, still", x.again(2), true);
        CHECK.due("its month", x.count(0), 0);
    }

    /** An image taken anew is the later one; one of a new object brings that back, though it knew no ship or line. */
    private static void imageAnew() {
        VoyageCompany x = new VoyageCompany();
        x.image(0);
        x.subscribe(0, 40);
        x.ship(9, 9, 9, 9);
        x.sail(0, 1);
        upset(x);
        x.again(0);
        same("a new one", Told.of(x), Told.of(new VoyageCompany()));
        VoyageCompany y = new VoyageCompany();
        y.image(0);
        y.subscribe(0, 40);
        y.image(0);
        y.subscribe(0, 5);
        y.again(0);
        CHECK.due("the later one", y.shares(0), 40);
    }

    /** "false for another k", "false if there is none such" */
    private static void numbersOfImages() {
        int[] ks = {Integer.MIN_VALUE, -1, 0, 1, 2, 3, Integer.MAX_VALUE};
        for (int k : ks) {
            VoyageCompany x = new VoyageCompany();
            boolean is = k >= 0 && k <= 2;
            CHECK.due("none at first: " + k, x.again(k), false);
            CHECK.due("image " + k, x.image(k), is);
            for (int other = -1; other <= 3; other++) {
                CHECK.due("again " + other + " of " + k, x.again(other), is && other == k);
            }
        }
    }

    /** Notes of all 600 months come again, with those on each side of a page of sixty. */
    private static void notesOfAllMonths() {
        VoyageCompany x = Scenes.company(600);
        for (int i = 0; i < 10; i++) {
            x.load(0, 0, 1);
            x.months(59);
            x.load(0, 0, 1);
            x.months(1);
        }
        x.image(0);
        x.unload(0);
        x.again(0);
        for (int i = 0; i < 10; i++) {
            CHECK.due("the first of page " + i, x.noted(0, 0, 60 * i), 60000 - 2 * i - 1);
            CHECK.due("the last but one of page " + i, x.noted(0, 0, 60 * i + 58), 60000 - 2 * i - 1);
            CHECK.due("the last of page " + i, x.noted(0, 0, 60 * i + 59), 60000 - 2 * i - 2);
        }
        VoyageCompany y = Scenes.company(1);
        for (int i = 0; i < 10; i++) {
            y.months(60);
        }
        y.image(1);
        y.image(2);
        y.again(1);
        CHECK.due("the end comes again", y.months(1), -1);
        CHECK.due("with its last note", y.noted(0, 0, 599), 100);
    }

    public static void main(String[] args) {
        allComesAgain();
        backFromAnotherCourse();
        notesOfAnotherCourse();
        tapeComesAgain();
        countsOfBalesComeAgain();
        shipComesAgain();
        imagesStayAsTheyAre();
        otherImagesStay();
        imageAnew();
        numbersOfImages();
        notesOfAllMonths();
        CHECK.finish();
    }
}
