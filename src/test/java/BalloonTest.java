/** Promises 11 to 14 and 20: set, inspect, start, home, of. */
public final class BalloonTest {
    public static void main(String[] args) {
        set();
        inspectAndStart();
        startByLift();
        home();
        of();
        Check.end();
    }

    private static void set() {
        BalloonHouse h = Check.houseWith(1000, 100, 1000, 0);
        Check.noBalloon("none such", () -> h.set(1, 0, 0));
        Check.noBalloon("none such, wrong", () -> h.set(-1, 9, 0));
        for (int[] w : new int[][] {{-1, 0}, {3, 0}, {0, -1}, {0, 41}, {1, -1}, {1, 101}, {2, -1}, {2, 101}}) {
            Check.illegal("set", () -> h.set(0, w[0], w[1]));
        }
        Check.due("bags", h.set(0, 0, 40), 0);
        Check.due("bags were", h.set(0, 0, 12), 40);
        Check.due("leak", h.set(0, 1, 100), 0);
        Check.due("leak was", h.set(0, 1, 3), 100);
        Check.due("taken for", h.set(0, 2, 100), 0);
        Check.due("taken for was", h.set(0, 2, 5), 100);
        Check.row("twelve bags", Check.of(h, 0, 6, 7), 12, 160);
        h.start(0, 5, 5);
        Check.due("bags, flying", h.set(0, 0, 1), -1000);
        Check.due("leak, flying", h.set(0, 1, 4), 3);
        Check.due("taken for, flying", h.set(0, 2, 6), 5);
        Check.illegal("wrong, flying", () -> h.set(0, 0, 41));
        Check.due("bags as they were", h.of(0, 6), 12);
        h.hours(1);
        Check.due("the true leak is flown with", h.of(0, 4), 1000 - 4 - 1);
        h.act(0, 2, 1000);
        h.hours(1);
        Check.row("landed at last", flyToGround(h), 2, 0);
        for (int what = 0; what < 3; what++) {
            Check.due("landed", h.set(0, what, 0), -1000);
        }
        h.home(0);
        Check.due("leaks stay", h.set(0, 1, 0), 4);
        Check.due("taken for stays", h.set(0, 2, 0), 6);
    }

    private static int[] flyToGround(BalloonHouse h) {
        for (int i = 0; i < 8 && h.of(0, 0) == 1; i++) {
            h.act(0, 2, 1000);
            h.hours(1);
        }
        return Check.of(h, 0, 0, 3);
    }

    private static void inspectAndStart() {
        BalloonHouse h = Check.houseWith(1000, 100, 1000, 0);
        Check.noBalloon("inspect none such", () -> h.inspect(1));
        Check.noBalloon("start none such", () -> h.start(1, 0, 0));
        Check.noBalloon("start none such, wrong", () -> h.start(1, 99, 0));
        for (int[] w : new int[][] {{-1, 0}, {24, 0}, {0, -1}, {0, 24}}) {
            Check.illegal("start", () -> h.start(0, w[0], w[1]));
        }
        Check.due("new", h.inspect(0), 0);
        h.start(0, 23, 23);
        Check.row("started", Check.of(h, 0, 0, 1, 2, 3), 1, 23, 23, 0);
        Check.due("flying already", h.start(0, 0, 0), -1);
        Check.illegal("wrong, flying already", () -> h.start(0, 24, 0));
        Check.due("no inspection in flight", h.inspect(0), -1);
        h.hours(98);
        h.wind(6, 3, 98, 1, 3, 0);
        h.hours(1);
        Check.row("left in its 99th hour", Check.of(h, 0, 0, 10), 3, 99);
        Check.due("not at home", h.start(0, 0, 0), -1);
        h.home(0);
        Check.fillPure(h, 0, 1000);
        Check.due("99 hours", h.start(0, 12, 12), 1);
        h.act(0, 2, 1000);
        h.hours(1);
        Check.row("landed in its 100th hour", Check.of(h, 0, 0, 10), 2, 100);
        h.hours(10);
        h.home(0);
        Check.due("100 hours come ahead of lift", h.start(0, 12, 12), -2);
        Check.fillPure(h, 0, 1000);
        Check.due("100 hours", h.start(0, 12, 12), -2);
        Check.illegal("100 hours, wrong", () -> h.start(0, 12, 24));
        Check.due("inspected", h.inspect(0), 100);
        Check.due("none since", h.of(0, 10), 0);
        Check.due("now it may", h.start(0, 12, 12), 1);
        h.act(0, 3, 0);
        h.hours(1);
        Check.due("one since", h.of(0, 10), 1);
    }

    private static void startByLift() {
        BalloonHouse h = Check.houseWith(1000, 100, 100, 0);
        Check.due("lift is load", h.start(0, 0, 0), 1);
        BalloonHouse one = Check.houseWith(1000, 100, 99, 0);
        Check.due("lift is below", one.start(0, 0, 0), -3);
        Check.due("it stays at home", one.of(0, 0), 0);
        one.hours(6);
        Check.due("the sun lifts it", one.start(0, 0, 0), 1);
        BalloonHouse bag = Check.houseWith(1000, 100, 104, 1);
        Check.due("a bag is 5", bag.start(0, 0, 0), -3);
        bag.set(0, 0, 0);
        Check.due("without it", bag.start(0, 0, 0), 1);
        BalloonHouse late = Check.houseWith(1000, 100, 95, 0);
        for (int i = 0; i < 10; i++) {
            late.hours(100);
        }
        Check.due("hour 1,000 is as 999", late.of(0, 8), 100);
        Check.due("started as in 999", late.start(0, 0, 0), 1);
        late.cloud(999, 1, true);
        Check.due("cloud of 999", late.of(0, 8), 96);
    }

    private static void home() {
        BalloonHouse h = Check.houseWith(1000, 100, 1000, 9);
        Check.noBalloon("none such", () -> h.home(1));
        Check.due("at home already", h.home(0), -1);
        Check.orders(h, 0, "drop 2;");
        h.wind(2, 0, 0, 100, -3, 0);
        h.zone(0, 575, 16, 0, 1000, 10);
        h.enter(0);
        h.start(0, 2, 2);
        h.hours(1);
        Check.due("flying", h.home(0), -1);
        h.hours(1);
        Check.row("left", Check.of(h, 0, 0, 1, 2, 3, 6, 9), 3, 2, 2, 2, 5, 20);
        Check.due("result", h.result(0), -20);
        Check.due("home", h.home(0), 1);
        Check.row("at home", Check.of(h, 0, 0, 1, 2, 3, 4, 5, 6, 7, 8, 9, 10), 0, -1, -1, 0, 0, 100, 0, 100, 0, 0, 2);
        Check.row("no track", Check.track(h, 0, 1), -1000000, -1000000, -1000000, -1000000, -1000000, -1000000, -1000000);
        Check.due("no result", h.result(0), -1000000);
        Check.due("not ranked", h.ranked(1000, 0), -1);
        Check.due("may enter anew", h.enter(0), 1);
        Check.fillPure(h, 0, 1000);
        h.set(0, 0, 6);
        h.start(0, 20, 20);
        Check.due("no track ahead of its first hour", h.track(0, 1, 0), -1000000);
        h.hours(1);
        Check.row("its orders stay", Check.track(h, 0, 2), 20, 20, 1, 1000, 4, 1, 2);
    }

    private static void of() {
        BalloonHouse h = Check.houseWith(1000, 400, 900, 10);
        Check.noBalloon("none such", () -> h.of(1, 0));
        Check.noBalloon("none such, wrong", () -> h.of(-1, 11));
        Check.illegal("what -1", () -> h.of(0, -1));
        Check.illegal("what 11", () -> h.of(0, 11));
        Check.row("at home", Check.of(h, 0, 0, 1, 2, 3, 4, 5, 6, 7, 8, 9, 10), 0, -1, -1, 0, 900, 100, 10, 450, 900, 0, 0);
        h.start(0, 7, 8);
        int[] lifts = {828, 756, 693, 630, 576, 522};
        for (int level = 1; level <= 6; level++) {
            h.hours(1);
            Check.row("level", Check.of(h, 0, 0, 1, 2, 3, 10), 1, 7, 8, level, level);
            int warmed = level == 6 ? 954 * 58 / 100 : lifts[level - 1];
            Check.due("lift by density", h.of(0, 8), warmed);
        }
        Check.illegal("wrong, flying", () -> h.of(0, 11));
    }
}
