/** Promise 22: plan. */
public final class PlanTest {
    public static void main(String[] args) {
        wrongPlans();
        notFlying();
        byForecasts();
        byTakenLeak();
        bagsAndOrder();
        landsAndLeaves();
        hourByHour();
        noTrace();
        Check.end();
    }

    private static int[] plan(BalloonHouse h, int n, int x, int y) {
        int[] got = new int[n + 2];
        for (int what = -2; what < n; what++) {
            got[what + 2] = h.plan(0, n, x, y, what);
        }
        return got;
    }

    private static void wrongPlans() {
        BalloonHouse h = Check.houseWith(1000, 100, 1000, 8);
        Check.noBalloon("none such", () -> h.plan(1, 1, 0, 0, 0));
        Check.noBalloon("none such, wrong", () -> h.plan(-1, 9, 0, 0, 0));
        int[][] wrong = {{0, 0, 0, -1}, {7, 0, 0, 0}, {1, -1, 0, 0}, {1, 24, 0, 0}, {1, 0, -1, 0}, {1, 0, 24, 0},
            {1, 0, 0, -3}, {1, 0, 0, 1}, {6, 0, 0, 6}};
        for (int[] w : wrong) {
            Check.illegal("at home, " + java.util.Arrays.toString(w), () -> h.plan(0, w[0], w[1], w[2], w[3]));
        }
        h.start(0, 5, 5);
        for (int[] w : wrong) {
            Check.illegal("flying, " + java.util.Arrays.toString(w), () -> h.plan(0, w[0], w[1], w[2], w[3]));
        }
        Check.due("6 hours", h.plan(0, 6, 23, 23, 5), 0);
    }

    private static void notFlying() {
        BalloonHouse h = Check.houseWith(1000, 100, 1000, 8);
        Check.due("at home", h.plan(0, 1, 0, 0, 0), -1000000);
        h.start(0, 5, 5);
        for (int i = 0; i < 9; i++) {
            h.hours(100);
        }
        h.hours(95);
        Check.due("beyond 1,000", h.plan(0, 6, 0, 0, 0), -1000000);
        Check.due("up to 1,000", h.plan(0, 5, 5, 5, -1), 0);
        h.hours(5);
        Check.due("at 1,000", h.plan(0, 1, 0, 0, 0), -1000000);
    }

    /** Forecasts count, true winds don't; the last one that was told does. */
    private static void byForecasts() {
        BalloonHouse h = Check.houseWith(1000, 100, 1000, 0);
        h.wind(1, 0, 0, 10, 0, 3);
        h.forecast(1, 0, 0, 10, -1, -1);
        h.forecast(1, 0, 0, 1, 2, 1);
        h.forecast(2, 0, 1, 1, 1, 1);
        h.start(0, 5, 5);
        Check.row("two hours", plan(h, 2, 8, 7), 0, 0, 0, 0);
        Check.row("four hours on", plan(h, 4, 10, 9), 0, 8, 0, 0, 0, 0);
    }

    private static void byTakenLeak() {
        // 100 of gas lifts 92 at level 1: with the leak of 100 thousandths 89 lift 81
        BalloonHouse h = Check.houseWith(1000, 82, 100, 0);
        h.forecast(1, 0, 0, 10, 3, 0);
        h.start(0, 5, 5);
        Check.due("no leak taken for true", h.plan(0, 1, 8, 5, -1), 0);
        h.set(0, 1, 100);
        Check.due("the true one is not known", h.plan(0, 1, 8, 5, -1), 0);
        h.set(0, 2, 100);
        Check.due("that it takes it for is", h.plan(0, 1, 8, 5, -1), 9);
        BalloonHouse sun = Check.houseWith(1000, 95, 100, 0);
        sun.hours(6);
        sun.forecast(1, 0, 6, 10, 3, 0);
        sun.start(0, 5, 5);
        Check.due("the sun lifts it", sun.plan(0, 1, 8, 5, -1), 0);
        sun.cloud(6, 1, true);
        Check.due("with cloud it does not", sun.plan(0, 1, 8, 5, -1), 9);
    }

    /** Level 1 just with a bag less; level 2 without any. */
    private static void bagsAndOrder() {
        // Lift: 100, 92, 84 at levels 0, 1, 2. Load: 95 with three bags, 90 with two, 80 without.
        BalloonHouse h = Check.houseWith(1000, 80, 100, 3);
        h.forecast(1, 0, 0, 10, 1, 0);
        h.forecast(2, 0, 0, 10, 0, 1);
        h.start(0, 5, 5);
        Check.row("dropped to rise", plan(h, 1, 6, 5), 2, 0, 1);
        Check.row("else it lands", plan(h, 1, 5, 5), 3, 0, 0);
        // The nearest first, then the most bags: level 1 twice needs one bag less.
        Check.row("no more bags than it must", plan(h, 2, 7, 5), 2, 0, 1, 0);
        Check.row("to level 2", plan(h, 3, 7, 6), 0, 0, 1, 1, 1);
        // Two hours are too short for level 2: it is down at 6, 5 that it is nearest to 6, 6.
        Check.row("as near as can be", plan(h, 2, 6, 6), 2, 1, 1, 2);
        h.act(0, 1, 1000);
        Check.row("what was told does not count", plan(h, 1, 6, 5), 2, 0, 1);
    }

    private static void landsAndLeaves() {
        BalloonHouse h = Check.houseWith(1000, 60, 100, 2);
        h.forecast(1, 0, 0, 10, 3, 0);
        h.forecast(2, 0, 0, 10, 0, 3);
        h.start(0, 22, 5);
        h.forecast(1, 1, 0, 10, 3, 0);
        h.forecast(2, 1, 0, 10, -3, 0);
        Check.row("it leaves where it was, and then holds", plan(h, 3, 22, 5), 2, 0, 0, 0, 0);
        BalloonHouse low = Check.houseWith(1000, 75, 100, 1);
        low.start(0, 5, 5);
        low.forecast(1, 0, 0, 10, 1, 0);
        low.forecast(2, 0, 0, 10, 1, 0);
        low.forecast(3, 0, 0, 10, 1, 0);
        // Valve 20 leaves 80: below the load of 80 at level 1, so it lands at once.
        Check.row("valve to land", plan(low, 3, 5, 5), 1, 0, 2, 0, 0);
        Check.row("hold as long as it is good", plan(low, 2, 6, 5), 1, 0, 0, 2);
    }

    /** Forecasts, sun and cloud of each hour to come, up to the sixth, at the top and in the last area. */
    private static void hourByHour() {
        BalloonHouse top = Check.houseWith(1000, 10, 1000, 0);
        top.start(0, 15, 15);
        top.hours(10);
        top.forecast(6, 3, 8, 5, -1, 0);
        top.forecast(6, 3, 15, 1, 3, 2);
        top.forecast(6, 3, 16, 9, 3, 3);
        Check.row("three by one, three others", plan(top, 6, 15, 17), 0, 0, 0, 0, 0, 0, 0, 0);
        Check.due("as far as forecasts go", top.plan(0, 5, 12, 15, -1), 0);
        // With 100 of gas and a load of 87: at level 1 by night, at 2 by day (89), and down to 1 at 20 of cloud (85).
        BalloonHouse day = Check.houseWith(1000, 87, 100, 0);
        day.hours(3);
        day.forecast(1, 0, 0, 20, 1, 0);
        day.forecast(2, 0, 0, 20, 0, 1);
        day.cloud(7, 1, true);
        day.start(0, 5, 5);
        Check.row("night, day, cloud, day", plan(day, 6, 9, 7), 0, 0, 0, 0, 0, 0, 0, 0);
        // Valve 20 of 100 leaves 80, which lift 73 at level 1: no less will do for a load of 74.
        BalloonHouse valve = Check.houseWith(1000, 74, 100, 0);
        valve.forecast(1, 0, 0, 20, 3, 0);
        valve.forecast(2, 0, 0, 20, 3, 0);
        valve.start(0, 5, 5);
        Check.due("20 are enough", valve.plan(0, 1, 5, 5, 0), 2);
        BalloonHouse even = Check.houseWith(1000, 73, 100, 0);
        even.forecast(1, 0, 0, 20, 3, 0);
        even.forecast(2, 0, 0, 20, 3, 0);
        even.start(0, 5, 5);
        Check.row("20 are not", plan(even, 1, 5, 5), 0, 9, 0);
    }

    private static void noTrace() {
        BalloonHouse h = Check.houseWith(1000, 60, 100, 2);
        h.zone(0, 575, 6, 0, 1000, 5);
        Check.orders(h, 0, "land;");
        h.forecast(1, 0, 0, 10, 3, 0);
        h.start(0, 5, 5);
        h.plan(0, 6, 9, 9, -1);
        Check.row("all as it was", Check.of(h, 0, 0, 1, 2, 3, 4, 6, 9, 10), 1, 5, 5, 0, 100, 2, 0, 0);
        Check.due("no hour", h.count(0), 0);
        Check.due("no wind found", h.count(9), 0);
        Check.due("no track", h.track(0, 0, 0), -1000000);
    }
}
