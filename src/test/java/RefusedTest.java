/** A call that is refused leaves all that later calls show as it was; so does one that just reads. */
public final class RefusedTest {
    private interface Steps {
        void on(BalloonHouse house);
    }

    private interface Question {
        int ask(BalloonHouse house);
    }

    private static final int FLYING = 0;
    private static final int AT_HOME = 1;
    private static final int LANDED = 2;
    private static final int LEFT = 3;
    private static final int WORN = 4;
    private static final String ILLEGAL = "throws.IllegalArgumentException";
    private static final String NO_SUCH = "throws.IndexOutOfBoundsException";
    private static final String NOT_NOW = "throws.IllegalStateException";

    public static void main(String[] args) {
        theHousesAreAsTheyShouldBe();
        sky();
        gas();
        fillAndSet();
        startAndHome();
        tapeAndOrders();
        flight();
        limitsOfHours();
        zonesSightsLog();
        race();
        fullHouse();
        readsChangeNothing();
        Check.end();
    }

    /** One of each: flying, at home and entered, landed, left, at home with 106 hours flown. Hour 110. */
    private static void busy(BalloonHouse h) {
        for (int i = 0; i < 5; i++) {
            h.balloon(1000, i == FLYING ? 500 : 10);
            h.cylinder(900, 90 + i, 10 + i);
            h.fill(i, 900, 80);
        }
        h.cylinder(600, 70, 30);
        h.cylinder(500, 90, 20);
        h.cylinder(400, 50, 0);
        h.start(WORN, 12, 12);
        h.hours(100);
        h.act(WORN, 2, 1000);
        h.hours(6);
        h.home(WORN);
        for (int level = 1; level <= 6; level++) {
            for (int area = 0; area < 4; area++) {
                h.wind(level, area, 106, 60, level % 3 - 1, area % 2 == 0 ? 1 : -1);
                h.forecast(level, area, 106, 60, area % 2, level % 2);
            }
        }
        h.cloud(112, 2, true);
        h.set(FLYING, 0, 12);
        h.set(FLYING, 1, 5);
        h.set(FLYING, 2, 7);
        h.set(AT_HOME, 0, 3);
        h.set(WORN, 1, 9);
        h.zone(0, 575, 14, 100, 1000, 2);
        for (int i = FLYING; i <= LEFT; i++) {
            h.enter(i);
        }
        h.start(LANDED, 14, 6);
        h.start(LEFT, 15, 1);
        h.start(FLYING, 10, 10);
        Check.orders(h, FLYING, "if hour<112:drop 1;if hour<114:valve 9;land;");
        Check.orders(h, AT_HOME, "drop 1;");
        h.hours(1);
        h.act(LANDED, 2, 1000);
        h.hours(3);
        h.sight(106, 5, 5);
        h.sight(110, 5, 9);
        h.log(100, 1);
        h.log(96, 1);
        h.log(92, 1);
        Check.feedText(h, "drop 2;valve 3;!");
        h.act(FLYING, 1, 3);
    }

    /** As much of all as there may be. */
    private static void full(BalloonHouse h) {
        busy(h);
        h.balloon(700, 20);
        h.cylinder(300, 60, 5);
        h.cylinder(200, 65, 5);
        for (int i = 24; i < 100; i++) {
            h.forecast(2, 1, 111, 5, 2, -2);
        }
        for (int i = 1; i < 10; i++) {
            h.zone(0, 300, 26, 105, 120, i);
        }
        for (int i = 2; i < 12; i++) {
            h.sight(109 + i, 5, 9);
        }
        for (int i = 3; i < 30; i++) {
            h.log(85, 20);
        }
        for (int i = 1; i < 15; i++) {
            Check.feedText(h, "                    ");
        }
    }

    /** The last hour is to come, and the one that was at home flies. */
    private static void late(BalloonHouse h) {
        busy(h);
        Check.hoursTo(h, 990);
        h.start(AT_HOME, 5, 5);
        h.hours(9);
        h.act(AT_HOME, 2, 30);
    }

    private static BalloonHouse made(Steps steps) {
        BalloonHouse house = new BalloonHouse();
        steps.on(house);
        return house;
    }

    private static void refused(String what, Steps steps, String due, Question asked) {
        for (int i = 0; i < Trace.TEXTS; i++) {
            BalloonHouse house = made(steps);
            Check.same(what, Check.outcome(() -> asked.ask(house)), due);
            Check.same(what + ": all is as it was", difference(Trace.of(house, i), Trace.of(made(steps), i)), "");
        }
    }

    private static String difference(String got, String want) {
        String[] g = got.split("\n");
        String[] w = want.split("\n");
        for (int i = 0; i < Math.max(g.length, w.length); i++) {
            if (i >= g.length || i >= w.length || !g[i].equals(w[i])) {
                return "line " + i + ": " + (i < g.length ? g[i] : "none") + " for " + (i < w.length ? w[i] : "none");
            }
        }
        return "";
    }

    private static void illegal(String what, Question asked) {
        refused(what, RefusedTest::busy, ILLEGAL, asked);
    }

    private static void noSuch(String what, Question asked) {
        refused(what, RefusedTest::busy, NO_SUCH, asked);
    }

    private static void answers(String what, int due, Question asked) {
        refused(what, RefusedTest::busy, Integer.toString(due), asked);
    }

    /** Else the refused calls below would meet other states than they name, and a trace would show too little. */
    private static void theHousesAreAsTheyShouldBe() {
        BalloonHouse h = made(RefusedTest::busy);
        int[] states = new int[5];
        for (int i = 0; i < 5; i++) {
            states[i] = h.of(i, 0);
        }
        Check.row("states", states, 1, 0, 2, 3, 0);
        Check.due("hours flown", h.of(WORN, 10), 106);
        Check.due("hour", h.count(0), 110);
        Check.due("cylinders left", h.count(2), 3);
        Check.same("ways", "" + (h.ways() > 0), "true");
        Check.same("leaks", "" + (h.leaks(0) > 0), "true");
        BalloonHouse f = made(RefusedTest::full);
        int[] counts = new int[7];
        for (int i = 0; i < 7; i++) {
            counts[i] = f.count(new int[] {1, 2, 3, 4, 5, 6, 8}[i]);
        }
        Check.row("full", counts, 6, 5, 100, 10, 12, 30, 300);
        BalloonHouse l = made(RefusedTest::late);
        Check.row("late", new int[] {l.count(0), l.of(AT_HOME, 0)}, 999, 1);
        theTextsShow("what was told", h1 -> h1.act(FLYING, 1, 4));
        theTextsShow("orders", h1 -> h1.orders(FLYING, 7));
        theTextsShow("the tape", h1 -> h1.feed(1, 2, 3, 4, 5));
        theTextsShow("a wind", h1 -> h1.wind(4, 0, 110, 9, 3, 3));
        theTextsShow("a forecast", h1 -> h1.forecast(6, 3, 118, 1, 3, 3));
        theTextsShow("cloud", h1 -> h1.cloud(110, 9, true));
        theTextsShow("the true leak", h1 -> h1.set(WORN, 1, 10));
        theTextsShow("what it is taken for", h1 -> h1.set(WORN, 2, 10));
        theTextsShow("a zone", h1 -> h1.zone(0, 575, 16, 110, 112, 1));
        theTextsShow("a sight", h1 -> h1.sight(111, 5, 10));
        theTextsShow("the log", h1 -> h1.log(88, 1));
        theTextsShow("the race", h1 -> h1.enter(WORN));
        theTextsShow("an inspection", h1 -> h1.inspect(WORN));
        theTextsShow("a way home", h1 -> h1.home(LEFT));
        theTextsShow("a start", h1 -> h1.start(AT_HOME, 5, 5));
        theTextsShow("bags", h1 -> h1.set(AT_HOME, 0, 4));
        theTextsShow("gas", h1 -> h1.fill(AT_HOME, 900, 60));
        theTextsShow("a cylinder", h1 -> h1.cylinder(1, 1, 1));
        theTextsShow("a balloon", h1 -> h1.balloon(100, 10));
        theTextsShow("an hour", h1 -> h1.hours(1));
    }

    private static void theTextsShow(String what, Question asked) {
        boolean differs = false;
        for (int i = 0; i < Trace.TEXTS; i++) {
            BalloonHouse house = made(RefusedTest::busy);
            asked.ask(house);
            differs |= !Trace.of(house, i).equals(Trace.of(made(RefusedTest::busy), i));
        }
        Check.same("the texts show " + what, "" + differs, "true");
    }

    private static void sky() {
        int[][] wrong = {{0, 0, 110, 9, 2, 2}, {7, 0, 110, 9, 2, 2}, {1, -1, 110, 9, 2, 2}, {1, 4, 110, 9, 2, 2},
            {1, 0, -1, 9, 2, 2}, {1, 0, 1000, 1, 2, 2}, {1, 0, 110, 0, 2, 2}, {1, 0, 110, -1, 2, 2},
            {1, 0, 110, 891, 2, 2}, {1, 0, 110, 9, -4, 2}, {1, 0, 110, 9, 4, 2}, {1, 0, 110, 9, 2, -4},
            {1, 0, 110, 9, 2, 4}};
        for (int[] w : wrong) {
            illegal("wind", h -> h.wind(w[0], w[1], w[2], w[3], w[4], w[5]));
            illegal("forecast", h -> h.forecast(w[0], w[1], w[2], w[3], w[4], w[5]));
            if (w[4] == 2 && w[5] == 2 && w[0] == 1 && w[1] == 0) {
                illegal("cloud", h -> h.cloud(w[2], w[3], true));
                illegal("no cloud", h -> h.cloud(w[2], w[3], false));
            }
        }
        for (int from : new int[] {0, 50, 109}) {
            answers("an hour over", -1, h -> h.wind(1, 0, from, 1, 3, 3));
            answers("hours over, and some to come", -1, h -> h.wind(1, 0, from, 1000 - from, 3, 3));
        }
        for (int[] w : new int[][] {{0, 0, 0}, {7, 0, 0}, {1, -1, 0}, {1, 4, 0}, {1, 0, -1}, {1, 0, 1000}}) {
            illegal("told", h -> h.told(w[0], w[1], w[2], 110));
            illegal("found", h -> h.found(w[0], w[1], w[2]));
        }
    }

    private static void gas() {
        illegal("volume 99", h -> h.balloon(99, 10));
        illegal("volume 5,001", h -> h.balloon(5001, 10));
        illegal("net 9", h -> h.balloon(100, 9));
        illegal("net 1,001", h -> h.balloon(100, 1001));
        for (int[] w : new int[][] {{0, 9, 9}, {1001, 9, 9}, {9, 0, 9}, {9, 101, 9}, {9, 9, -1}, {9, 9, 1001}}) {
            illegal("cylinder", h -> h.cylinder(w[0], w[1], w[2]));
        }
        for (int[] w : new int[][] {{0, 9, 0}, {10001, 9, 0}, {9, 0, 0}, {9, 101, 0}, {9, 9, -1}, {9, 9, 4}}) {
            illegal("fillable", h -> h.fillable(w[0], w[1], w[2]));
        }
        answers("no such fill", -1, h -> h.fillable(1501, 1, 0));
        answers("a fill that is just asked for", 20, h -> h.fillable(500, 90, 0));
    }

    private static void fillAndSet() {
        for (int none : new int[] {-1, 5, Integer.MIN_VALUE, Integer.MAX_VALUE}) {
            noSuch("fill", h -> h.fill(none, 400, 50));
            noSuch("set", h -> h.set(none, 0, 7));
        }
        for (int[] w : new int[][] {{0, 50}, {10001, 50}, {400, 0}, {400, 101}}) {
            illegal("fill", h -> h.fill(AT_HOME, w[0], w[1]));
            illegal("fill of one that flies", h -> h.fill(FLYING, w[0], w[1]));
        }
        for (int balloon : new int[] {FLYING, LANDED, LEFT}) {
            answers("fill, not at home", -1, h -> h.fill(balloon, 400, 50));
            answers("no such fill, not at home", -1, h -> h.fill(balloon, 10000, 100));
            answers("bags, not at home", -1000, h -> h.set(balloon, 0, 7));
        }
        answers("too much", -2, h -> h.fill(AT_HOME, 1501, 1));
        answers("too pure", -2, h -> h.fill(AT_HOME, 501, 90));
        for (int balloon : new int[] {LANDED, LEFT}) {
            answers("the true leak, down", -1000, h -> h.set(balloon, 1, 7));
            answers("what it is taken for, down", -1000, h -> h.set(balloon, 2, 7));
        }
        for (int[] w : new int[][] {{-1, 0}, {3, 0}, {0, -1}, {0, 41}, {1, -1}, {1, 101}, {2, -1}, {2, 101}}) {
            illegal("set", h -> h.set(AT_HOME, w[0], w[1]));
            illegal("set of one that flies", h -> h.set(FLYING, w[0], w[1]));
            illegal("set of one that landed", h -> h.set(LANDED, w[0], w[1]));
        }
    }

    private static void startAndHome() {
        for (int none : new int[] {-1, 5, Integer.MIN_VALUE, Integer.MAX_VALUE}) {
            noSuch("inspect", h -> h.inspect(none));
            noSuch("start", h -> h.start(none, 5, 5));
            noSuch("home", h -> h.home(none));
        }
        for (int[] w : new int[][] {{-1, 5}, {24, 5}, {5, -1}, {5, 24}}) {
            for (int balloon = FLYING; balloon <= WORN; balloon++) {
                int b = balloon;
                illegal("start", h -> h.start(b, w[0], w[1]));
            }
        }
        answers("inspect, flying", -1, h -> h.inspect(FLYING));
        for (int balloon : new int[] {FLYING, LANDED, LEFT}) {
            answers("start, not at home", -1, h -> h.start(balloon, 5, 5));
        }
        answers("start, with 106 hours flown", -2, h -> h.start(WORN, 5, 5));
        refused("start, below its load", h -> {
            busy(h);
            h.fill(AT_HOME, 400, 50);
            h.balloon(1000, 1000);
            h.fill(5, 500, 90);
        }, "-3", h -> h.start(5, 5, 5));
        for (int balloon : new int[] {FLYING, AT_HOME, WORN}) {
            answers("home", -1, h -> h.home(balloon));
        }
    }

    private static void tapeAndOrders() {
        for (int none : new int[] {-1, 5, Integer.MIN_VALUE, Integer.MAX_VALUE}) {
            noSuch("orders", h -> h.orders(none, 7));
        }
        for (int n : new int[] {-1, 21, Integer.MIN_VALUE, Integer.MAX_VALUE}) {
            illegal("orders", h -> h.orders(FLYING, n));
        }
        refused("a full tape", RefusedTest::full, "-1", h -> h.feed(1, 2, 3, 4, 5));
        // Faulty orders empty the tape and tell their fault, but no balloon's orders change: whose they are is one.
        for (String text : new String[] {"drop 5;!", "valve 10000;", "drop (((((((((1))))))))); ", "if x=1:drop"}) {
            for (int i = 0; i < Trace.TEXTS; i++) {
                Check.same("orders stay", difference(afterFault(FLYING, text, i), afterFault(AT_HOME, text, i)), "");
            }
        }
    }

    private static String afterFault(int balloon, String text, int which) {
        BalloonHouse house = made(RefusedTest::busy);
        house.orders(LANDED, 0);
        Check.same("a fault", "" + (Check.orders(house, balloon, text) < 0), "true");
        return Trace.of(house, which);
    }

    private static void flight() {
        for (int none : new int[] {-1, 5, Integer.MIN_VALUE, Integer.MAX_VALUE}) {
            noSuch("act", h -> h.act(none, 1, 1));
            noSuch("of", h -> h.of(none, 1));
            noSuch("track", h -> h.track(none, 109, 1));
            noSuch("plan", h -> h.plan(none, 1, 1, 1, 0));
        }
        for (int[] w : new int[][] {{-1, 5}, {4, 5}, {1, -1}, {1, 1001}, {0, 1001}, {3, -1}}) {
            illegal("act", h -> h.act(FLYING, w[0], w[1]));
            illegal("act of one at home", h -> h.act(AT_HOME, w[0], w[1]));
        }
        for (int balloon : new int[] {AT_HOME, LANDED, LEFT, WORN}) {
            answers("act, not flying", -1, h -> h.act(balloon, 1, 1));
            answers("plan, not flying", -1000000, h -> h.plan(balloon, 2, 5, 5, 1));
        }
        for (int what : new int[] {-1, 11, Integer.MIN_VALUE, Integer.MAX_VALUE}) {
            illegal("of", h -> h.of(FLYING, what));
            illegal("track", h -> h.track(FLYING, 109, what));
        }
        for (int[] w : new int[][] {{0, 5, 5, -1}, {7, 5, 5, 0}, {2, -1, 5, 0}, {2, 24, 5, 0}, {2, 5, -1, 0},
            {2, 5, 24, 0}, {2, 5, 5, -3}, {2, 5, 5, 2}}) {
            illegal("plan", h -> h.plan(FLYING, w[0], w[1], w[2], w[3]));
        }
    }

    private static void limitsOfHours() {
        for (int n : new int[] {-1, 101, Integer.MIN_VALUE, Integer.MAX_VALUE}) {
            illegal("hours", h -> h.hours(n));
            refused("hours, late", RefusedTest::late, ILLEGAL, h -> h.hours(n));
        }
        for (int n : new int[] {2, 100}) {
            refused("hours above 1,000", RefusedTest::late, NOT_NOW, h -> h.hours(n));
        }
        // What was told for the hour that comes is not used up when no hour goes by.
        answers("no hours", 110, h -> h.hours(0));
    }

    private static void zonesSightsLog() {
        int[][] wrong = {{-1, 9, 16, 0, 9, 7}, {576, 9, 16, 0, 9, 7}, {9, -1, 16, 0, 9, 7}, {9, 576, 16, 0, 9, 7},
            {9, 9, -1, 0, 9, 7}, {9, 9, 7, 0, 9, 7}, {9, 9, 70, 0, 9, 7}, {9, 9, 21, 0, 9, 7}, {9, 9, 16, -1, 9, 7},
            {9, 9, 16, 9, 8, 7}, {9, 9, 16, 9, 1001, 7}, {9, 9, 16, 0, 9, 0}, {9, 9, 16, 0, 9, 101}};
        for (int[] w : wrong) {
            illegal("zone", h -> h.zone(w[0], w[1], w[2], w[3], w[4], w[5]));
        }
        for (int[] w : new int[][] {{-1, 5, 5}, {1000, 5, 5}, {111, -1, 5}, {111, 24, 5}, {111, 5, -1}, {111, 5, 24}}) {
            illegal("sight", h -> h.sight(w[0], w[1], w[2]));
        }
        for (int hour : new int[] {0, 106, 109, 110, 147, 999}) {
            answers("sight of hour " + hour, -2, h -> h.sight(hour, 5, 5));
        }
        for (int[] w : new int[][] {{-1, 5}, {10001, 5}, {5, -1}, {5, 501}}) {
            illegal("log", h -> h.log(w[0], w[1]));
        }
        for (int what : new int[] {-1, 3, Integer.MIN_VALUE, Integer.MAX_VALUE}) {
            illegal("leaks", h -> h.leaks(what));
        }
    }

    private static void race() {
        for (int none : new int[] {-1, 5, Integer.MIN_VALUE, Integer.MAX_VALUE}) {
            noSuch("enter", h -> h.enter(none));
            noSuch("result", h -> h.result(none));
        }
        for (int balloon : new int[] {FLYING, AT_HOME, LANDED, LEFT}) {
            answers("enter", -1, h -> h.enter(balloon));
        }
        refused("enter one that flies, not entered", h -> {
            busy(h);
            h.inspect(WORN);
            h.fill(WORN, 400, 50);
            h.start(WORN, 5, 5);
        }, "-1", h -> h.enter(WORN));
        for (int none : new int[] {-1, 10, Integer.MIN_VALUE, Integer.MAX_VALUE}) {
            answers("count", -1, h -> h.count(none));
            answers("ranked", -1, h -> h.ranked(110, none));
            answers("way", -1, h -> h.way(none));
        }
    }

    private static void fullHouse() {
        refused("a seventh balloon", RefusedTest::full, NOT_NOW, h -> h.balloon(1000, 10));
        refused("an eleventh cylinder", RefusedTest::full, "-1", h -> h.cylinder(1000, 100, 0));
        refused("a 101st forecast", RefusedTest::full, "-1", h -> h.forecast(1, 0, 110, 9, 3, 3));
        refused("an eleventh zone", RefusedTest::full, "-1", h -> h.zone(0, 575, 6, 0, 1000, 100));
        refused("a thirteenth sight", RefusedTest::full, "-1", h -> h.sight(130, 5, 9));
        refused("a thirteenth sight, ahead", RefusedTest::full, "-1", h -> h.sight(5, 5, 9));
        refused("a 31st amount", RefusedTest::full, "-1", h -> h.log(1, 500));
        refused("a wrong balloon", RefusedTest::full, ILLEGAL, h -> h.balloon(99, 10));
        refused("a wrong cylinder", RefusedTest::full, ILLEGAL, h -> h.cylinder(0, 100, 0));
        refused("a wrong forecast", RefusedTest::full, ILLEGAL, h -> h.forecast(0, 0, 110, 9, 3, 3));
        refused("a wrong zone", RefusedTest::full, ILLEGAL, h -> h.zone(0, 576, 6, 0, 1000, 100));
        refused("a wrong sight", RefusedTest::full, ILLEGAL, h -> h.sight(130, 24, 9));
        refused("a wrong amount", RefusedTest::full, ILLEGAL, h -> h.log(1, 501));
    }

    private static void readsChangeNothing() {
        answers("what it is", 1, h -> h.of(FLYING, 0));
        answers("no track", -1000000, h -> h.track(AT_HOME, 109, 0));
        answers("bags left", 12 - 4, h -> h.of(FLYING, 6));
        answers("fault", -1, h -> h.fault());
        answers("hour", 110, h -> h.count(0));
        answers("what is forecast", 34, h -> h.told(1, 0, 110, 110));
        answers("not found", -1, h -> h.found(6, 3, 999));
        answers("no result", -1000000, h -> h.result(FLYING));
        refused("plans, ways, leaks, ranks", RefusedTest::busy, "0", h -> {
            h.plan(FLYING, 6, 0, 23, 5);
            h.ways();
            h.way(3);
            h.leaks(2);
            h.ranked(113, 0);
            return 0;
        });
    }
}
