/** Edges of plans and of zones (terms 4, promises 22 and 23). */
public final class EdgePlanTest {
    public static void main(String[] args) {
        lastHours();
        whereItIs();
        nothingToDropNorToLetGo();
        lessThanTwentyOfGas();
        bagsRunOut();
        nearestThenBagsThenFirst();
        firstHourByHour();
        downOrGoneItHolds();
        forecastsOfEachHourAndArea();
        forecastsAsTheyAreNow();
        leakTakenFor();
        warmGasInPlans();
        ordersAndToldActsDontCount();
        sidesOfZones();
        levelsOfZones();
        hoursOfZones();
        tenZones();
        pointsByNumber();
        Check.end();
    }

    private static int[] plan(BalloonHouse h, int n, int x, int y) {
        int[] got = new int[n + 2];
        for (int what = -2; what < n; what++) {
            got[what + 2] = h.plan(0, n, x, y, what);
        }
        return got;
    }

    private static final int NOTHING = -1000000;

    private static void lastHours() {
        BalloonHouse h = Check.houseWith(1000, 10, 900, 0);
        h.start(0, 5, 5);
        Check.hoursTo(h, 994);
        for (int left = 6; left >= 0; left--) {
            for (int n = 1; n <= 6; n++) {
                Check.due("plan of " + n + " with " + left + " left", h.plan(0, n, 5, 5, -1), n <= left ? 0 : NOTHING);
                Check.due("its last act", h.plan(0, n, 5, 5, n - 1), n <= left ? 0 : NOTHING);
            }
            if (left > 0) {
                h.hours(1);
            }
        }
        Check.illegal("wrong, though there is none", () -> h.plan(0, 1, 5, 5, 1));
        Check.illegal("wrong, though there is none", () -> h.plan(0, 7, 5, 5, 0));
    }

    private static void whereItIs() {
        BalloonHouse h = Check.houseWith(1000, 10, 900, 2);
        Check.due("at home", h.plan(0, 1, 0, 0, -1), NOTHING);
        h.start(0, 0, 0);
        Check.due("no way", h.plan(0, 1, 0, 0, -1), 0);
        Check.due("from corner to corner", h.plan(0, 6, 23, 23, -1), 2 * 23 * 23);
        Check.due("along x", h.plan(0, 1, 23, 0, -1), 23 * 23);
        Check.due("along y", h.plan(0, 1, 0, 23, -1), 23 * 23);
        Check.due("by one", h.plan(0, 1, 1, 1, -1), 2);
        h.act(0, 2, 1000);
        h.hours(1);
        Check.due("landed", h.of(0, 0), 2);
        for (int what = -2; what <= 1; what++) {
            Check.due("landed", h.plan(0, 2, 0, 0, what), NOTHING);
        }
        BalloonHouse left = Check.houseWith(1000, 10, 900, 2);
        left.wind(1, 0, 0, 1, -1, 0);
        left.start(0, 0, 0);
        left.hours(1);
        Check.due("left", left.of(0, 0), 3);
        Check.due("left", left.plan(0, 1, 0, 0, -1), NOTHING);
    }

    /** Without bags and gas hold is all that may be. */
    private static void nothingToDropNorToLetGo() {
        BalloonHouse h = Check.houseWith(1000, 10, 900, 0);
        h.start(0, 5, 5);
        h.hours(4);
        h.act(0, 2, 1000);
        h.hours(1);
        Check.row("at level 3, empty", Check.of(h, 0, 0, 3, 4, 6), 1, 3, 0, 0);
        h.forecast(2, 0, 0, 100, 1, 0);
        h.forecast(1, 0, 0, 100, 1, 1);
        Check.row("it sinks by 2 and 1", plan(h, 2, 9, 9), 0, 2 * 2 + 3 * 3, 0, 0);
        Check.row("and is down", plan(h, 6, 9, 9), 0, 2 * 2 + 3 * 3, 0, 0, 0, 0, 0, 0);
        // With a bag: dropped in vain, so it is kept.
        BalloonHouse bag = Check.houseWith(1000, 10, 900, 1);
        bag.start(0, 5, 5);
        bag.hours(4);
        bag.act(0, 2, 1000);
        bag.hours(1);
        Check.row("no bag is dropped in vain", plan(bag, 2, 9, 9), 1, 32, 0, 0);
    }

    private static void lessThanTwentyOfGas() {
        // Gas of 19 lifts 17 at level 1: enough for a load of 10. Valve leaves none, and it lands.
        BalloonHouse h = Check.houseWith(1000, 10, 19, 0);
        h.forecast(1, 0, 0, 9, 3, 0);
        h.start(0, 5, 5);
        Check.row("as far as it is there", plan(h, 1, 5, 5), 0, 0, 2);
        Check.row("else it is carried", plan(h, 1, 8, 5), 0, 0, 0);
        // Gas of 31: valve leaves 11, which lift 10 at level 1; 30 leave 10, which lift 9.
        BalloonHouse even = Check.houseWith(1000, 10, 31, 0);
        even.forecast(1, 0, 0, 9, 3, 0);
        even.start(0, 5, 5);
        Check.row("20, and no more", plan(even, 1, 5, 5), 0, 9, 0);
        BalloonHouse less = Check.houseWith(1000, 10, 30, 0);
        less.forecast(1, 0, 0, 9, 3, 0);
        less.start(0, 5, 5);
        Check.row("20, and no less", plan(less, 1, 5, 5), 0, 0, 2);
    }

    /** Gas of 1,000 lifts 840 and 770 at levels 2 and 3; the load is 775, 770 and 765 with 2, 1 and no bags. */
    private static void bagsRunOut() {
        BalloonHouse h = Check.houseWith(1000, 765, 1000, 2);
        h.forecast(2, 0, 0, 99, 1, 0);
        h.forecast(3, 0, 0, 99, 0, 1);
        h.start(0, 5, 5);
        h.hours(2);
        Check.row("level 2: 775 is too much for 3", Check.of(h, 0, 3, 7), 2, 775);
        Check.row("one bag: 770 is not", plan(h, 1, 5, 6), 1, 0, 1);
        Check.row("the other is kept", plan(h, 6, 5, 11), 1, 0, 1, 0, 0, 0, 0, 0);
        Check.row("none: along x", plan(h, 6, 11, 5), 2, 0, 0, 0, 0, 0, 0, 0);
        Check.row("none, then one", plan(h, 2, 6, 6), 1, 0, 0, 1);
    }

    private static void nearestThenBagsThenFirst() {
        BalloonHouse h = Check.houseWith(1000, 10, 1000, 3);
        h.start(0, 5, 5);
        // Calm: all rows end at one square, so the most bags, and then hold.
        Check.row("all are alike", plan(h, 6, 5, 5), 3, 0, 0, 0, 0, 0, 0, 0);
        Check.row("nor nearer", plan(h, 3, 9, 5), 3, 16, 0, 0, 0);
        // Nearer counts more than bags. Gas of 990 lifts 910 at level 1: the load with one bag.
        BalloonHouse bags = Check.houseWith(1000, 905, 990, 3);
        bags.forecast(1, 0, 0, 9, 1, 0);
        bags.start(0, 5, 5);
        // Of three bags two would have to go, and just one may in an hour.
        Check.row("one hour: in vain", plan(bags, 1, 6, 5), 3, 1, 0);
        BalloonHouse near = Check.houseWith(1000, 905, 990, 2);
        near.forecast(1, 0, 0, 9, 1, 0);
        near.start(0, 5, 5);
        Check.row("nearer with one bag less", plan(near, 1, 6, 5), 1, 0, 1);
        Check.row("both hours", plan(near, 2, 7, 5), 1, 0, 1, 0);
        Check.row("not so near: then with all bags", plan(near, 1, 4, 5), 2, 1, 0);
        Check.row("between both: the most bags", plan(near, 1, 5, 9), 2, 16, 0);
    }

    /** Valve in one of some hours brings it down by one level: the row with valve last is the first. */
    private static void firstHourByHour() {
        // Gas of 1,000 lifts 920 and 840 at levels 1 and 2, 980 lift 901 and 823, 960 lift 883 and 806.
        BalloonHouse h = Check.houseWith(1000, 830, 1000, 0);
        h.start(0, 5, 5);
        h.hours(2);
        Check.due("level 2", h.of(0, 3), 2);
        h.forecast(1, 0, 0, 99, 1, 0);
        Check.row("hold, hold, valve", plan(h, 3, 6, 5), 0, 0, 0, 0, 2);
        Check.row("hold, valve, hold", plan(h, 3, 7, 5), 0, 0, 0, 2, 0);
        Check.row("valve, hold, hold", plan(h, 3, 8, 5), 0, 0, 2, 0, 0);
        Check.row("as near as it can", plan(h, 3, 9, 5), 0, 1, 2, 0, 0);
        Check.row("hold all the time", plan(h, 3, 5, 5), 0, 0, 0, 0, 0);
        // Valve comes behind drop, but keeps the bag.
        BalloonHouse both = Check.houseWith(1000, 825, 1000, 1);
        both.start(0, 5, 5);
        both.hours(2);
        both.forecast(2, 0, 0, 99, 1, 0);
        both.forecast(1, 0, 0, 99, 0, 1);
        Check.row("level 2 by a load of 830", Check.of(both, 0, 3, 7), 2, 830);
        Check.row("hold keeps the bag", plan(both, 1, 6, 5), 1, 0, 0);
        Check.row("valve keeps it too", plan(both, 1, 5, 6), 1, 0, 2);
    }

    private static void downOrGoneItHolds() {
        BalloonHouse h = Check.houseWith(1000, 1000, 1000, 0);
        h.forecast(1, 0, 0, 9, 3, 3);
        h.start(0, 5, 5);
        Check.row("it lands at once, where it was", plan(h, 6, 9, 9), 0, 32, 0, 0, 0, 0, 0, 0);
        // With bags: they stay in it on the ground.
        BalloonHouse bags = Check.houseWith(1000, 400, 1000, 40);
        bags.forecast(1, 0, 0, 9, -3, 0);
        bags.start(0, 0, 5);
        Check.row("it leaves, with all its bags", plan(bags, 6, 23, 5), 40, 23 * 23, 0, 0, 0, 0, 0, 0);
        bags.forecast(1, 0, 0, 9, 1, 0);
        bags.forecast(2, 0, 0, 9, -3, 0);
        Check.row("carried by one, then it leaves there", plan(bags, 6, 23, 5), 40, 22 * 22, 0, 0, 0, 0, 0, 0);
        // It left: what the winds are where it is does not count any more.
        bags.forecast(3, 0, 0, 9, 3, 0);
        Check.row("gone is gone", plan(bags, 3, 23, 5), 40, 22 * 22, 0, 0, 0);
        Check.due("but it can be landed in time", bags.plan(0, 6, 1, 5, -1), 0);
    }

    private static void forecastsOfEachHourAndArea() {
        BalloonHouse h = Check.houseWith(1000, 10, 1000, 0);
        h.start(0, 10, 10);
        h.hours(6);
        Check.due("at the top", h.of(0, 3), 6);
        int[][] areas = {{3, 0}, {0, 3}, {0, -3}, {-3, 0}};
        for (int area = 0; area < 4; area++) {
            h.forecast(6, area, 6, 6, areas[area][0], areas[area][1]);
        }
        // 10, 10 to 13, 10 to 13, 13 to 10, 13 to 10, 10 and round again
        int[][] at = {{13, 10}, {13, 13}, {10, 13}, {10, 10}, {13, 10}, {13, 13}};
        for (int n = 1; n <= 6; n++) {
            Check.due("behind " + n, h.plan(0, n, at[n - 1][0], at[n - 1][1], -1), 0);
        }
        // Each hour has its own: the one ahead, and the one behind what it is told for, are calm.
        for (int hour = 6; hour <= 11; hour++) {
            BalloonHouse one = Check.houseWith(1000, 10, 1000, 0);
            one.start(0, 10, 10);
            one.hours(6);
            one.forecast(6, 0, hour, 1, 1, 0);
            for (int n = 1; n <= 6; n++) {
                Check.due("hour " + hour + " of " + n, one.plan(0, n, 11, 10, -1), hour < 6 + n ? 0 : 1);
            }
        }
    }

    private static void forecastsAsTheyAreNow() {
        BalloonHouse h = Check.houseWith(1000, 10, 1000, 0);
        h.start(0, 10, 10);
        h.hours(6);
        h.wind(6, 0, 6, 9, 2, 2);
        Check.due("true winds are not known", h.plan(0, 1, 12, 12, -1), 8);
        h.forecast(6, 0, 6, 9, 1, 1);
        Check.due("told now", h.plan(0, 1, 11, 11, -1), 0);
        h.forecast(6, 0, 6, 1, -1, -1);
        Check.due("told last", h.plan(0, 1, 9, 9, -1), 0);
        Check.due("the next hour is as it was", h.plan(0, 2, 10, 10, -1), 0);
        h.hours(1);
        Check.row("carried by the true one", Check.of(h, 0, 1, 2), 12, 12);
        Check.due("found, but not forecast, in area 3", h.plan(0, 1, 12, 12, -1), 0);
    }

    private static void leakTakenFor() {
        // Gas of 1,000 lifts 920 at level 1; taken for a leak of 10, 989 lift 909; of 11, 988 lift 908.
        BalloonHouse h = Check.houseWith(1000, 909, 1000, 0);
        h.forecast(1, 0, 0, 9, 3, 0);
        h.start(0, 5, 5);
        Check.due("none", h.plan(0, 1, 8, 5, -1), 0);
        h.set(0, 2, 10);
        Check.due("10", h.plan(0, 1, 8, 5, -1), 0);
        h.set(0, 2, 11);
        Check.due("11: it lands", h.plan(0, 1, 8, 5, -1), 9);
        h.set(0, 1, 100);
        h.set(0, 2, 10);
        Check.due("whatever the true one is", h.plan(0, 1, 8, 5, -1), 0);
        h.set(0, 2, 100);
        Check.due("100", h.plan(0, 1, 8, 5, -1), 9);
    }

    private static void warmGasInPlans() {
        // Volume 1,000: with sun just 944 may stay, warmed to 1,000; with cloud 981, warmed to 1,000.
        BalloonHouse h = Check.houseWith(1000, 920, 1000, 0);
        h.hours(6);
        h.forecast(1, 0, 0, 99, 1, 0);
        h.start(0, 5, 5);
        Check.due("what is too much goes", h.plan(0, 6, 11, 5, -1), 0);
        // By night behind the sun 944 lift 868: it lands.
        BalloonHouse evening = Check.houseWith(1000, 920, 1000, 0);
        evening.hours(16);
        evening.forecast(1, 0, 0, 99, 1, 0);
        evening.start(0, 5, 5);
        Check.due("two hours of sun", evening.plan(0, 2, 7, 5, -1), 0);
        Check.due("then it lands", evening.plan(0, 6, 11, 5, -1), 16);
        // 981 and 19 lift 920 as well.
        evening.cloud(16, 2, true);
        Check.due("with cloud as well", evening.plan(0, 2, 7, 5, -1), 0);
    }

    private static void ordersAndToldActsDontCount() {
        BalloonHouse h = Check.houseWith(1000, 10, 1000, 5);
        h.forecast(1, 0, 0, 9, 1, 0);
        Check.orders(h, 0, "valve 1000;");
        h.start(0, 5, 5);
        h.act(0, 3, 0);
        h.zone(0, 575, 6, 0, 1000, 100);
        Check.row("a plan without them", plan(h, 1, 6, 5), 5, 0, 0);
        Check.row("all is as it was", Check.of(h, 0, 0, 1, 2, 3, 4, 6, 9), 1, 5, 5, 0, 1000, 5, 0);
        h.hours(1);
        Check.row("what was told is done", Check.track(h, 0, 0), 5, 5, 1, 500, 5, 3, 500);
    }

    private static int square(int x, int y) {
        return 24 * y + x;
    }

    /** Points of one hour at a square, level 1, hour 3. */
    private static int lost(int x, int y, int one, int other, int levels, int from, int to) {
        BalloonHouse h = Check.houseWith(1000, 10, 900, 0);
        h.hours(3);
        h.zone(one, other, levels, from, to, 9);
        h.start(0, x, y);
        h.hours(1);
        return h.of(0, 9);
    }

    private static void sidesOfZones() {
        int[][][] corners = {{{6, 8}, {10, 15}}, {{10, 15}, {6, 8}}, {{6, 15}, {10, 8}}, {{10, 8}, {6, 15}}};
        for (int[][] c : corners) {
            int one = square(c[0][0], c[0][1]);
            int other = square(c[1][0], c[1][1]);
            for (int x = 5; x <= 11; x++) {
                for (int y : new int[] {7, 8, 11, 15, 16}) {
                    boolean in = x >= 6 && x <= 10 && y >= 8 && y <= 15;
                    Check.due("at " + x + ", " + y, lost(x, y, one, other, 16, 0, 1000), in ? 9 : 0);
                }
            }
        }
        for (int[] at : new int[][] {{0, 0}, {23, 0}, {0, 23}, {23, 23}}) {
            int corner = square(at[0], at[1]);
            Check.due("a corner of the field", lost(at[0], at[1], corner, corner, 16, 0, 1000), 9);
            Check.due("not beside it", lost(at[0] == 0 ? 1 : 22, at[1], corner, corner, 16, 0, 1000), 0);
            Check.due("not above it", lost(at[0], at[1] == 0 ? 1 : 22, corner, corner, 16, 0, 1000), 0);
            Check.due("the whole field", lost(at[0], at[1], 0, 575, 16, 0, 1000), 9);
            Check.due("the whole field, back", lost(at[0], at[1], 575, 0, 16, 0, 1000), 9);
            Check.due("the whole field, crosswise", lost(at[0], at[1], 23, 552, 16, 0, 1000), 9);
        }
    }

    private static void levelsOfZones() {
        for (int from = 0; from <= 6; from++) {
            for (int to = from; to <= 6; to++) {
                BalloonHouse h = Check.houseWith(1000, 10, 900, 0);
                h.zone(0, 575, 10 * from + to, 0, 1000, 7);
                h.start(0, 5, 5);
                int want = 0;
                for (int level = 1; level <= 6; level++) {
                    h.hours(1);
                    want += level >= from && level <= to ? 7 : 0;
                    Check.due("levels " + from + " to " + to + " at " + level, h.of(0, 9), want);
                }
            }
        }
    }

    private static void hoursOfZones() {
        for (int[] w : new int[][] {{0, 1000, 9}, {3, 3, 9}, {0, 3, 9}, {3, 1000, 9}, {0, 2, 0}, {4, 1000, 0}, {2, 4, 9}}) {
            Check.due("hours " + w[0] + " to " + w[1], lost(5, 5, 0, 575, 16, w[0], w[1]), w[2]);
        }
        BalloonHouse first = Check.houseWith(1000, 10, 900, 0);
        first.zone(0, 575, 16, 0, 0, 9);
        first.start(0, 5, 5);
        first.hours(2);
        Check.due("hour 0 alone", first.of(0, 9), 9);
        BalloonHouse last = Check.houseWith(1000, 10, 900, 0);
        last.zone(0, 575, 16, 999, 1000, 9);
        last.zone(0, 575, 16, 1000, 1000, 50);
        last.start(0, 5, 5);
        Check.hoursTo(last, 999);
        Check.due("up to 999", last.of(0, 9), 0);
        last.hours(1);
        Check.due("hour 999, and none of 1,000", last.of(0, 9), 9);
        // A zone that comes later counts for the hours to come alone.
        BalloonHouse later = Check.houseWith(1000, 10, 900, 0);
        later.start(0, 5, 5);
        later.hours(3);
        later.zone(0, 575, 16, 0, 1000, 9);
        Check.due("hours that are over don't count", later.of(0, 9), 0);
        later.hours(1);
        Check.due("the next one does", later.of(0, 9), 9);
    }

    private static void tenZones() {
        BalloonHouse h = Check.houseWith(1000, 10, 900, 0);
        for (int i = 0; i < 10; i++) {
            Check.due("number", h.zone(0, 575, 6, 0, 1000, i == 9 ? 100 : 1 + i), i);
        }
        Check.due("no eleventh", h.zone(0, 575, 6, 0, 1000, 50), -1);
        h.start(0, 5, 5);
        h.hours(1);
        Check.due("of each of ten", h.of(0, 9), 45 + 100);
        h.hours(1);
        Check.due("in each hour", h.of(0, 9), 2 * 145);
    }

    private static void pointsByNumber() {
        BalloonHouse h = Check.houseWith(1000, 10, 900, 0);
        h.balloon(1000, 10);
        Check.fillPure(h, 1, 900);
        h.zone(0, 0, 16, 0, 1000, 9);
        h.start(0, 0, 0);
        h.start(1, 0, 1);
        h.hours(2);
        Check.row("just the one that is in it", new int[] {h.of(0, 9), h.of(1, 9)}, 18, 0);
        h.act(0, 2, 1000);
        h.hours(1);
        Check.row("sinking counts", Check.of(h, 0, 0, 3, 9), 1, 1, 27);
        h.hours(1);
        Check.row("landed does not", Check.of(h, 0, 0, 3, 9), 2, 0, 27);
        h.home(0);
        Check.due("gone at home", h.of(0, 9), 0);
    }
}
