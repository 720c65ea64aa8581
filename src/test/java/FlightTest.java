/** Promises 18, 19 and 21: act, hours, track; and how an hour goes by (terms, 2.). */
public final class FlightTest {
    public static void main(String[] args) {
        act();
        hours();
        acts();
        leaks();
        fullOfWarmGas();
        risesAndSinks();
        leaves();
        track();
        Check.end();
    }

    private static void act() {
        BalloonHouse h = Check.houseWith(1000, 10, 1000, 20);
        Check.noBalloon("none such", () -> h.act(1, 0, 0));
        Check.noBalloon("none such, wrong", () -> h.act(-1, 4, 0));
        for (int[] w : new int[][] {{-1, 0}, {4, 0}, {0, -1}, {1, 1001}, {3, 1001}}) {
            Check.illegal("act", () -> h.act(0, w[0], w[1]));
        }
        Check.due("at home", h.act(0, 1, 1), -1);
        Check.orders(h, 0, "drop 1;");
        h.start(0, 5, 5);
        Check.illegal("wrong, flying", () -> h.act(0, 4, 0));
        Check.due("told", h.act(0, 1, 1000), 1);
        Check.due("told anew", h.act(0, 1, 4), 1);
        h.hours(2);
        Check.row("what was told last", Check.track(h, 0, 0), 5, 5, 1, 1000, 16, 1, 4);
        Check.row("then by orders", Check.track(h, 0, 1), 5, 5, 2, 1000, 15, 1, 1);
        Check.due("hold", h.act(0, 0, 7), 1);
        h.hours(1);
        Check.row("hold ahead of orders", Check.track(h, 0, 2), 5, 5, 3, 1000, 15, 0, 0);
        h.act(0, 2, 1000);
        h.hours(1);
        Check.due("no gas, but not down yet", h.act(0, 0, 0), 1);
        h.hours(3);
        Check.row("landed", Check.of(h, 0, 0, 3), 2, 0);
        Check.due("landed, not flying", h.act(0, 0, 0), -1);
    }

    private static void hours() {
        BalloonHouse h = new BalloonHouse();
        Check.illegal("-1", () -> h.hours(-1));
        Check.illegal("101", () -> h.hours(101));
        Check.due("none", h.hours(0), 0);
        for (int i = 1; i <= 9; i++) {
            Check.due("hours", h.hours(100), 100 * i);
        }
        Check.due("hours", h.hours(99), 999);
        Check.wrongState("beyond", () -> h.hours(2));
        Check.illegal("wrong, and beyond", () -> h.hours(101));
        Check.due("still", h.count(0), 999);
        Check.due("the last", h.hours(1), 1000);
        Check.wrongState("no more", () -> h.hours(1));
        Check.due("none is no more", h.hours(0), 1000);
    }

    private static void acts() {
        BalloonHouse h = Check.houseWith(1000, 10, 901, 6);
        h.start(0, 5, 5);
        h.act(0, 1, 4);
        h.hours(1);
        Check.row("drop", Check.track(h, 0, 0), 5, 5, 1, 901, 2, 1, 4);
        h.act(0, 1, 4);
        h.hours(1);
        Check.row("drop what there is", Check.track(h, 0, 1), 5, 5, 2, 901, 0, 1, 2);
        h.act(0, 2, 100);
        h.hours(1);
        Check.row("valve", Check.track(h, 0, 2), 5, 5, 3, 801, 0, 2, 100);
        h.act(0, 3, 9);
        h.hours(1);
        Check.row("land", Check.track(h, 0, 3), 5, 5, 4, 401, 0, 3, 400);
        h.act(0, 2, 1000);
        h.hours(1);
        Check.row("valve what there is", Check.track(h, 0, 4), 5, 5, 3, 0, 0, 2, 401);
    }

    private static void leaks() {
        BalloonHouse h = Check.houseWith(1000, 10, 1000, 0);
        h.set(0, 1, 9);
        h.set(0, 2, 100);
        h.start(0, 5, 5);
        h.hours(2);
        Check.due("9 and 1", h.track(0, 0, 3), 990);
        Check.due("8, cut, and 1", h.track(0, 1, 3), 981);
        h.set(0, 1, 0);
        h.hours(1);
        Check.due("no leak, no 1", h.track(0, 2, 3), 981);
        h.set(0, 1, 100);
        h.act(0, 2, 971);
        h.hours(1);
        Check.due("behind the act: 10 less 1 and 1", h.track(0, 3, 3), 8);
        h.act(0, 2, 7);
        h.hours(1);
        Check.due("the last one", h.track(0, 4, 3), 0);
        h.hours(1);
        Check.due("without gas", h.track(0, 5, 3), 0);
    }

    /** Gas that is too much when warmed goes, just as much as must. */
    private static void fullOfWarmGas() {
        BalloonHouse h = Check.houseWith(1000, 10, 1000, 0);
        h.cloud(6, 1, true);
        h.start(0, 5, 5);
        h.hours(8);
        Check.due("by night it stays", h.track(0, 5, 3), 1000);
        // 981 and 19.62, cut: 1,000; 982 and 19.64: 1,001
        Check.due("sun behind cloud", h.track(0, 6, 3), 981);
        // 944 and 56.64, cut: 1,000; 945 and 56.7: 1,001
        Check.due("sun", h.track(0, 7, 3), 944);
        BalloonHouse least = Check.houseWith(100, 10, 100, 0);
        least.hours(6);
        least.start(0, 5, 5);
        least.hours(1);
        // 95 and 5.7, cut: 100
        Check.due("the least volume", least.of(0, 4), 95);
        BalloonHouse act = Check.houseWith(1000, 10, 1000, 0);
        act.hours(6);
        act.start(0, 5, 5);
        act.act(0, 2, 60);
        act.hours(1);
        Check.due("behind the act there is room", act.of(0, 4), 940);
        BalloonHouse leak = Check.houseWith(1000, 10, 1000, 0);
        leak.set(0, 1, 59);
        leak.hours(6);
        leak.start(0, 5, 5);
        leak.hours(1);
        Check.due("behind the leak too", leak.of(0, 4), 940);
    }

    private static void risesAndSinks() {
        // lift 736 at level 1 and 672 at level 2, with 800 of gas
        BalloonHouse even = Check.houseWith(1000, 736, 800, 0);
        even.start(0, 5, 5);
        even.hours(3);
        Check.row("lift that is load is enough", Check.of(even, 0, 0, 3), 1, 1);
        BalloonHouse below = Check.houseWith(1000, 737, 800, 0);
        below.start(0, 5, 5);
        below.hours(1);
        Check.row("it can't rise: landed at once", Check.of(below, 0, 0, 3, 1, 2), 2, 0, 5, 5);
        Check.due("landed finds no wind", below.count(9), 0);
        BalloonHouse up = Check.houseWith(1000, 10, 800, 0);
        up.start(0, 5, 5);
        up.hours(8);
        for (int i = 0; i < 8; i++) {
            Check.due("by one each hour, to 6", up.track(0, i, 2), Math.min(i + 1, 6));
        }
        up.act(0, 2, 1000);
        up.hours(9);
        for (int i = 0; i < 6; i++) {
            Check.due("and down", up.track(0, 8 + i, 2), 5 - i);
        }
        Check.row("landed", Check.of(up, 0, 0, 10), 2, 14);
        Check.due("no track on the ground", up.track(0, 14, 0), -1000000);
        // 672 by night at level 2, 712 by day
        BalloonHouse sun = Check.houseWith(1000, 700, 800, 0);
        sun.start(0, 5, 5);
        sun.hours(6);
        Check.due("by night", sun.of(0, 3), 1);
        sun.hours(1);
        Check.due("the sun lifts it", sun.of(0, 3), 2);
        sun.hours(11);
        Check.due("up to the evening", sun.of(0, 3), 2);
        sun.hours(1);
        Check.due("then it sinks", sun.of(0, 3), 1);
        sun.hours(1);
        Check.due("no lower than it must", sun.of(0, 3), 1);
    }

    private static void leaves() {
        BalloonHouse h = Check.houseWith(1000, 10, 1000, 0);
        h.wind(1, 1, 0, 9, 3, 1);
        h.wind(2, 1, 0, 9, 1, -3);
        h.start(0, 20, 3);
        h.hours(1);
        Check.row("to the edge", Check.of(h, 0, 0, 1, 2), 1, 23, 4);
        h.hours(3);
        Check.row("where it was", Check.of(h, 0, 0, 1, 2, 3, 10), 3, 23, 4, 2, 2);
        Check.row("its last row", Check.track(h, 0, 1), 23, 4, 2, 1000, 0, 0, 0);
        Check.due("no row behind", h.track(0, 2, 0), -1000000);
        for (int[] w : new int[][] {{-1, 0, 0, 9}, {0, -1, 9, 0}, {1, 0, 23, 9}, {0, 1, 9, 23}}) {
            BalloonHouse edge = Check.houseWith(1000, 10, 1000, 0);
            for (int area = 0; area < 4; area++) {
                edge.wind(1, area, 0, 1, w[0], w[1]);
            }
            edge.start(0, w[2], w[3]);
            edge.hours(1);
            Check.row("each side", Check.of(edge, 0, 0, 1, 2), 3, w[2], w[3]);
        }
    }

    private static void track() {
        BalloonHouse h = Check.houseWith(1000, 100, 1000, 8);
        h.hours(2);
        h.wind(1, 0, 2, 1, 2, 1);
        h.start(0, 5, 6);
        Check.due("none yet", h.track(0, 2, 0), -1000000);
        h.act(0, 1, 3);
        h.hours(1);
        Check.row("row", Check.track(h, 0, 2), 7, 7, 1, 1000, 5, 1, 3);
        Check.noBalloon("none such", () -> h.track(1, 2, 0));
        Check.noBalloon("none such, wrong", () -> h.track(-1, 2, 7));
        Check.illegal("what -1", () -> h.track(0, 2, -1));
        Check.illegal("what 7", () -> h.track(0, 2, 7));
        for (int hour : new int[] {-1, 0, 1, 3, 999, 1000, Integer.MIN_VALUE, Integer.MAX_VALUE}) {
            Check.due("no row of " + hour, h.track(0, hour, 0), -1000000);
        }
        for (int i = 0; i < 9; i++) {
            h.hours(100);
        }
        h.hours(97);
        Check.due("up to the last hour", h.track(0, 999, 2), 6);
    }
}
