/** Each argument of each call: the last that is allowed on either side, and the first that is not. */
public final class LimitsTest {
    public static void main(String[] args) {
        winds();
        forecasts();
        skyRead();
        clouds();
        balloonsAndCylinders();
        fills();
        sets();
        squares();
        ordersAndActs();
        hours();
        reads();
        plans();
        zones();
        zoneLevels();
        sightsAndLogs();
        balloonNumbers();
        anyNumberIsTaken();
        Check.end();
    }

    private static BalloonHouse fresh() {
        return new BalloonHouse();
    }

    /** One balloon at home, without gas. */
    private static BalloonHouse one() {
        BalloonHouse h = new BalloonHouse();
        h.balloon(1000, 100);
        return h;
    }

    private static BalloonHouse flying() {
        BalloonHouse h = Check.houseWith(1000, 100, 1000, 5);
        h.start(0, 5, 5);
        return h;
    }

    private static void winds() {
        Check.limits("wind's level", 1, 6, 1, n -> fresh().wind(n, 0, 0, 1, 0, 0));
        Check.limits("wind's area", 0, 3, 1, n -> fresh().wind(1, n, 0, 1, 0, 0));
        Check.limits("wind's first hour", 0, 999, 1, n -> fresh().wind(1, 0, n, 1, 0, 0));
        Check.limits("wind's hours from 0", 1, 1000, 1, n -> fresh().wind(1, 0, 0, n, 0, 0));
        Check.limits("wind's hours from 1", 1, 999, 1, n -> fresh().wind(1, 0, 1, n, 0, 0));
        Check.limits("wind's hours from 999", 1, 1, 1, n -> fresh().wind(1, 0, 999, n, 0, 0));
        Check.limits("wind's x", -3, 3, 1, n -> fresh().wind(1, 0, 0, 1, n, 0));
        Check.limits("wind's y", -3, 3, 1, n -> fresh().wind(1, 0, 0, 1, 0, n));
    }

    private static void forecasts() {
        Check.limits("forecast's level", 1, 6, 1, n -> fresh().forecast(n, 0, 0, 1, 0, 0));
        Check.limits("forecast's area", 0, 3, 1, n -> fresh().forecast(1, n, 0, 1, 0, 0));
        Check.limits("forecast's first hour", 0, 999, 1, n -> fresh().forecast(1, 0, n, 1, 0, 0));
        Check.limits("forecast's hours from 0", 1, 1000, 1, n -> fresh().forecast(1, 0, 0, n, 0, 0));
        Check.limits("forecast's hours from 1", 1, 999, 1, n -> fresh().forecast(1, 0, 1, n, 0, 0));
        Check.limits("forecast's hours from 999", 1, 1, 1, n -> fresh().forecast(1, 0, 999, n, 0, 0));
        Check.limits("forecast's x", -3, 3, 1, n -> fresh().forecast(1, 0, 0, 1, n, 0));
        Check.limits("forecast's y", -3, 3, 1, n -> fresh().forecast(1, 0, 0, 1, 0, n));
    }

    private static void skyRead() {
        Check.limits("told's level", 1, 6, 33, n -> fresh().told(n, 0, 0, 0));
        Check.limits("told's area", 0, 3, 33, n -> fresh().told(1, n, 0, 0));
        Check.limits("told's hour", 0, 999, 33, n -> fresh().told(1, 0, n, 0));
        Check.limits("found's level", 1, 6, -1, n -> fresh().found(n, 0, 0));
        Check.limits("found's area", 0, 3, -1, n -> fresh().found(1, n, 0));
        Check.limits("found's hour", 0, 999, -1, n -> fresh().found(1, 0, n));
    }

    private static void clouds() {
        for (boolean is : new boolean[] {true, false}) {
            Check.limits("cloud's first hour", 0, 999, 1, n -> fresh().cloud(n, 1, is));
            Check.limits("cloud's hours from 0", 1, 1000, 1, n -> fresh().cloud(0, n, is));
            Check.limits("cloud's hours from 1", 1, 999, 1, n -> fresh().cloud(1, n, is));
            Check.limits("cloud's hours from 999", 1, 1, 1, n -> fresh().cloud(999, n, is));
        }
    }

    private static void balloonsAndCylinders() {
        Check.limits("volume", 100, 5000, 0, n -> fresh().balloon(n, 100));
        Check.limits("net", 10, 1000, 0, n -> fresh().balloon(1000, n));
        Check.limits("cylinder's amount", 1, 1000, 0, n -> fresh().cylinder(n, 50, 50));
        Check.limits("cylinder's purity", 1, 100, 0, n -> fresh().cylinder(50, n, 50));
        Check.limits("cylinder's price", 0, 1000, 0, n -> fresh().cylinder(50, 50, n));
    }

    private static void fills() {
        Check.limits("fillable's amount", 1, 10000, -1, n -> fresh().fillable(n, 50, 0));
        Check.limits("fillable's purity", 1, 100, -1, n -> fresh().fillable(50, n, 0));
        Check.limits("fillable's what", 0, 3, -1, n -> fresh().fillable(50, 50, n));
        Check.limits("fill's amount", 1, 10000, -2, n -> one().fill(0, n, 50));
        Check.limits("fill's purity", 1, 100, -2, n -> one().fill(0, 50, n));
        Check.limits("fill's amount, flying", 1, 10000, -1, n -> flying().fill(0, n, 50));
        Check.limits("fill's purity, flying", 1, 100, -1, n -> flying().fill(0, 50, n));
    }

    private static void sets() {
        Check.limits("set's what", 0, 2, 0, n -> one().set(0, n, 0));
        Check.limits("bags", 0, 40, 0, n -> one().set(0, 0, n));
        Check.limits("the true leak", 0, 100, 0, n -> one().set(0, 1, n));
        Check.limits("what it is taken for", 0, 100, 0, n -> one().set(0, 2, n));
        Check.limits("bags, flying", 0, 40, -1000, n -> flying().set(0, 0, n));
        Check.limits("the true leak, flying", 0, 100, 0, n -> flying().set(0, 1, n));
        Check.limits("what it is taken for, flying", 0, 100, 0, n -> flying().set(0, 2, n));
    }

    private static void squares() {
        Check.limits("start's x", 0, 23, 1, n -> Check.houseWith(1000, 100, 1000, 0).start(0, n, 11));
        Check.limits("start's y", 0, 23, 1, n -> Check.houseWith(1000, 100, 1000, 0).start(0, 11, n));
        Check.limits("start's x without lift", 0, 23, -3, n -> one().start(0, n, 11));
        Check.limits("start's y, flying", 0, 23, -1, n -> flying().start(0, 11, n));
    }

    private static void ordersAndActs() {
        Check.limits("orders of an empty tape", 0, 0, 0, n -> one().orders(0, n));
        Check.limits("orders of 20 bytes", 0, 20, 0, n -> blanks(1).orders(0, n));
        Check.limits("orders of 300 bytes", 0, 300, 0, n -> blanks(15).orders(0, n));
        Check.limits("act", 0, 3, 1, n -> flying().act(0, n, 5));
        for (int act = 0; act <= 3; act++) {
            int told = act;
            Check.limits("how much of act " + act, 0, 1000, 1, n -> flying().act(0, told, n));
        }
        Check.limits("act, at home", 0, 3, -1, n -> one().act(0, n, 5));
        Check.limits("how much, at home", 0, 1000, -1, n -> one().act(0, 1, n));
    }

    private static BalloonHouse blanks(int feeds) {
        BalloonHouse h = one();
        for (int i = 0; i < feeds; i++) {
            h.feed(0x20202020, 0x20202020, 0x20202020, 0x20202020, 0x20202020);
        }
        return h;
    }

    private static void hours() {
        Check.limits("hours", 0, 100, 0, n -> fresh().hours(n) - n);
        BalloonHouse late = fresh();
        Check.hoursTo(late, 1000);
        Check.due("none at 1,000", late.hours(0), 1000);
        for (int n : new int[] {1, 2, 99, 100}) {
            Check.wrongState("beyond 1,000 by " + n, () -> late.hours(n));
        }
        for (int n : new int[] {-1, 101, Integer.MIN_VALUE, Integer.MAX_VALUE}) {
            Check.illegal("at 1,000, " + n, () -> late.hours(n));
        }
        for (int n : new int[] {1, 99, 100}) {
            BalloonHouse near = fresh();
            Check.hoursTo(near, 1000 - n);
            Check.due("up to 1,000 by " + n, near.hours(n), 1000);
            BalloonHouse nearer = fresh();
            Check.hoursTo(nearer, 1001 - n);
            Check.wrongState("one beyond 1,000 by " + n, () -> nearer.hours(n));
            Check.due("it stays", nearer.count(0), 1001 - n);
        }
    }

    private static void reads() {
        Check.limits("of's what", 0, 10, 0, n -> one().of(0, n));
        Check.limits("track's what", 0, 6, -1000000, n -> one().track(0, 0, n));
        Check.limits("leaks' what", 0, 2, 0, n -> zeroLeak().leaks(n) - (n == 0 ? 1 : 0));
    }

    /** A log that just 0 fits. */
    private static BalloonHouse zeroLeak() {
        BalloonHouse h = fresh();
        h.log(100, 0);
        h.log(100, 0);
        return h;
    }

    private static void plans() {
        Check.limits("plan's hours", 1, 6, 0, n -> flying().plan(0, n, 5, 5, -1));
        Check.limits("plan's x", 0, 23, 5, n -> flying().plan(0, 1, n, 5, -2));
        Check.limits("plan's y", 0, 23, 5, n -> flying().plan(0, 1, 5, n, -2));
        for (int hours = 1; hours <= 6; hours++) {
            int n = hours;
            Check.limits("what of " + n, -2, n - 1, 0, w -> w == -2 ? flying().plan(0, n, 5, 5, w) - 5
                : flying().plan(0, n, 5, 5, w));
        }
        Check.limits("plan's hours, at home", 1, 6, -1000000, n -> one().plan(0, n, 5, 5, -1));
        Check.limits("plan's x, at home", 0, 23, -1000000, n -> one().plan(0, 1, n, 5, -1));
        Check.limits("plan's y, at home", 0, 23, -1000000, n -> one().plan(0, 1, 5, n, -1));
        Check.limits("plan's what, at home", -2, 3, -1000000, n -> one().plan(0, 4, 5, 5, n));
    }

    private static void zones() {
        Check.limits("one square", 0, 575, 0, n -> fresh().zone(n, 300, 16, 0, 1000, 7));
        Check.limits("the other square", 0, 575, 0, n -> fresh().zone(300, n, 16, 0, 1000, 7));
        Check.limits("from, up to 1,000", 0, 1000, 0, n -> fresh().zone(0, 0, 16, n, 1000, 7));
        Check.limits("from, up to 5", 0, 5, 0, n -> fresh().zone(0, 0, 16, n, 5, 7));
        Check.limits("to, from 0", 0, 1000, 0, n -> fresh().zone(0, 0, 16, 0, n, 7));
        Check.limits("to, from 5", 5, 1000, 0, n -> fresh().zone(0, 0, 16, 5, n, 7));
        Check.limits("to, from 1,000", 1000, 1000, 0, n -> fresh().zone(0, 0, 16, 1000, n, 7));
        Check.limits("points", 1, 100, 0, n -> fresh().zone(0, 0, 16, 0, 1000, n));
        Check.limits("levels from 0", 0, 6, 0, n -> fresh().zone(0, 0, n, 0, 1000, 7));
        Check.limits("levels from 6", 66, 66, 0, n -> fresh().zone(0, 0, n, 0, 1000, 7));
    }

    /** Ten times a level, and one that is not below it. */
    private static void zoneLevels() {
        for (int levels = -70; levels <= 170; levels++) {
            boolean may = false;
            for (int from = 0; from <= 6; from++) {
                for (int to = from; to <= 6; to++) {
                    may |= levels == 10 * from + to;
                }
            }
            int asked = levels;
            Check.same("levels " + levels, Check.outcome(() -> fresh().zone(0, 575, asked, 0, 1000, 7)),
                may ? "0" : "throws.IllegalArgumentException");
        }
    }

    private static void sightsAndLogs() {
        Check.limits("sight's hour", 0, 999, 1, n -> fresh().sight(n, 5, 5));
        Check.limits("sight's x", 0, 23, 1, n -> fresh().sight(0, n, 5));
        Check.limits("sight's y", 0, 23, 1, n -> fresh().sight(0, 5, n));
        Check.limits("log's amount", 0, 10000, 1, n -> fresh().log(n, 5));
        Check.limits("log's error", 0, 500, 1, n -> fresh().log(5, n));
    }

    private static BalloonHouse houseOf(int balloons) {
        BalloonHouse h = fresh();
        for (int i = 0; i < balloons; i++) {
            h.balloon(1000, 100);
        }
        return h;
    }

    private static int ask(int call, BalloonHouse h, int balloon) {
        switch (call) {
            case 0: return h.fill(balloon, 1, 1);
            case 1: return h.set(balloon, 0, 0);
            case 2: return h.inspect(balloon);
            case 3: return h.start(balloon, 0, 0);
            case 4: return h.home(balloon);
            case 5: return h.orders(balloon, 0);
            case 6: return h.act(balloon, 0, 0);
            case 7: return h.of(balloon, 0);
            case 8: return h.track(balloon, 0, 0);
            case 9: return h.plan(balloon, 1, 0, 0, 0);
            case 10: return h.enter(balloon);
            default: return h.result(balloon);
        }
    }

    /** The same calls with other arguments that are none such either: that there is no such balloon comes first. */
    private static int askWrongly(int call, BalloonHouse h, int balloon) {
        switch (call) {
            case 0: return h.fill(balloon, 0, 101);
            case 1: return h.set(balloon, 3, -1);
            case 3: return h.start(balloon, -1, 24);
            case 5: return h.orders(balloon, -1);
            case 6: return h.act(balloon, 4, -1);
            case 7: return h.of(balloon, 11);
            case 8: return h.track(balloon, 0, 7);
            case 9: return h.plan(balloon, 0, -1, 24, 9);
            default: return ask(call, h, balloon);
        }
    }

    /** A balloon's number: from 0 on up to the last there is. */
    private static void balloonNumbers() {
        int[] due = {-2, 0, 0, -3, -1, 0, -1, 0, -1000000, -1000000, 1, -1000000};
        for (int call = 0; call < due.length; call++) {
            int c = call;
            for (int balloons : new int[] {0, 1, 2, 6}) {
                for (int number : new int[] {-1, balloons, 6, Integer.MIN_VALUE, Integer.MAX_VALUE}) {
                    Check.noBalloon("call " + c + " of " + number, () -> ask(c, houseOf(balloons), number));
                    Check.noBalloon("wrong " + c + " of " + number, () -> askWrongly(c, houseOf(balloons), number));
                }
                for (int number = 0; number < balloons; number++) {
                    Check.due("call " + c + " of " + number, ask(c, houseOf(balloons), number), due[c]);
                }
            }
        }
    }

    /** Where the document names no limit each number is taken, and what is not there is answered so. */
    private static void anyNumberIsTaken() {
        int[] far = {Integer.MIN_VALUE, -1001, -1, 1001, 100000, Integer.MAX_VALUE};
        BalloonHouse h = one();
        h.forecast(1, 0, 0, 1, 1, 1);
        for (int n : far) {
            Check.due("known at " + n, h.told(1, 0, 0, n), n < 0 ? 33 : 44);
            Check.due("track of " + n, h.track(0, n, 0), -1000000);
            Check.due("way " + n, h.way(n), -1);
            Check.due("ranked at " + n, h.ranked(n, 0), -1);
            Check.due("ranked " + n, h.ranked(0, n), -1);
            Check.due("count of " + n, h.count(n), -1);
        }
    }
}
