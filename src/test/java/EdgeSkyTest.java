/** Edges of areas, sun, cloud, warmed gas, winds, forecasts and what is found (terms 1 and 2, promises 1 to 6). */
public final class EdgeSkyTest {
    public static void main(String[] args) {
        areas();
        areasFlown();
        sunDayByDay();
        cloudHourByHour();
        cloudAtTheEnds();
        warmedGasIsCut();
        liftIsCut();
        windsOfTheFirstAndLastHour();
        windsThatAreOver();
        lastWindCounts();
        forecastsAtTheirEnds();
        forecastsByTheHourTheyWereTold();
        hundredForecasts();
        nothingIsFoundOnTheGround();
        Check.end();
    }

    private static final int[] SIDES = {0, 11, 12, 23};

    /** Winds that lead inward from each corner, one for each area, at level 1 alone. */
    private static int windX(int area) {
        return area % 2 == 0 ? 1 : -1;
    }

    private static int windY(int area) {
        return area < 2 ? 1 : -1;
    }

    private static int areaOf(int x, int y) {
        return (x < 12 ? 0 : 1) + (y < 12 ? 0 : 2);
    }

    private static void blowInward(BalloonHouse h) {
        for (int area = 0; area < 4; area++) {
            h.wind(1, area, 0, 1, windX(area), windY(area));
        }
    }

    private static void areas() {
        BalloonHouse h = new BalloonHouse();
        blowInward(h);
        for (int x : SIDES) {
            for (int y : SIDES) {
                int area = areaOf(x, y);
                h.clear();
                h.sight(0, x, y);
                h.sight(1, x + windX(area), y + windY(area));
                Check.due("ways from " + x + ", " + y, h.ways(), 1);
                Check.due("at level 1", h.way(0), 1);
            }
        }
    }

    private static void areasFlown() {
        for (int x : SIDES) {
            for (int y : SIDES) {
                BalloonHouse h = Check.houseWith(1000, 10, 1000, 0);
                blowInward(h);
                h.start(0, x, y);
                h.hours(1);
                int area = areaOf(x, y);
                Check.row("from " + x + ", " + y, Check.of(h, 0, 0, 1, 2), 1, x + windX(area), y + windY(area));
                for (int other = 0; other < 4; other++) {
                    int found = 10 * (windX(area) + 3) + windY(area) + 3;
                    Check.due("found in area " + other, h.found(1, other, 0), other == area ? found : -1);
                }
            }
        }
    }

    private static void sunDayByDay() {
        BalloonHouse h = Check.houseWith(5000, 10, 1000, 0);
        for (int hour = 0; hour < 72; hour++) {
            int left = hour % 24;
            boolean sun = left == 6 || left == 7 || left == 16 || left == 17 || left > 7 && left < 16;
            Check.due("lift in hour " + hour, h.of(0, 8), sun ? 1060 : 1000);
            h.hours(1);
        }
        // 960 leaves 0, and 984 does
        int[][] late = {{965, 1000}, {966, 1060}, {977, 1060}, {978, 1000}, {989, 1000}, {990, 1060}, {999, 1060}, {1000, 1060}};
        for (int[] l : late) {
            Check.hoursTo(h, l[0]);
            Check.due("lift in hour " + l[0], h.of(0, 8), l[1]);
        }
    }

    private static void cloudHourByHour() {
        BalloonHouse h = Check.houseWith(5000, 10, 1000, 0);
        Check.due("cloud of four hours", h.cloud(5, 4, true), 1);
        Check.due("of one", h.cloud(17, 1, true), 1);
        Check.due("by night", h.cloud(18, 12, true), 1);
        Check.due("and none", h.cloud(7, 1, false), 1);
        Check.due("where there was none", h.cloud(10, 2, false), 1);
        Check.hoursTo(h, 4);
        int[] want = {1000, 1000, 1020, 1060, 1020, 1060, 1060, 1060, 1060, 1060, 1060, 1060, 1060, 1020, 1000, 1000};
        for (int i = 0; i < want.length; i++) {
            Check.due("lift in hour " + (4 + i), h.of(0, 8), want[i]);
            h.hours(1);
        }
        Check.due("hours that are over too", h.cloud(0, 5, true), 1);
        Check.hoursTo(h, 30);
        Check.due("twelve hours from 18 end ahead of 30", h.of(0, 8), 1060);
        Check.due("now it has", h.cloud(30, 1, true), 1);
        Check.due("in this hour", h.of(0, 8), 1020);
        Check.due("and now it hasn't", h.cloud(30, 1, false), 1);
        Check.due("in this hour again", h.of(0, 8), 1060);
    }

    private static void cloudAtTheEnds() {
        BalloonHouse h = Check.houseWith(5000, 10, 1000, 0);
        h.cloud(0, 1000, true);
        Check.hoursTo(h, 6);
        Check.due("all hours", h.of(0, 8), 1020);
        Check.hoursTo(h, 999);
        Check.due("the last hour", h.of(0, 8), 1020);
        h.hours(1);
        Check.due("1,000 as 999", h.of(0, 8), 1020);
        h.cloud(0, 1000, false);
        Check.due("1,000 as 999, cleared", h.of(0, 8), 1060);
        h.cloud(998, 1, true);
        Check.due("1,000 not as 998", h.of(0, 8), 1060);
        h.cloud(999, 1, true);
        Check.due("1,000 as 999, once more", h.of(0, 8), 1020);
    }

    /** Lift at the ground of pure gas is warmed gas. */
    private static int warmed(int gas, boolean cloud) {
        BalloonHouse h = Check.houseWith(5000, 10, gas, 0);
        h.hours(6);
        h.cloud(6, 1, cloud);
        return h.of(0, 8);
    }

    private static void warmedGasIsCut() {
        // gas, with sun, with cloud: 60 and 20 thousandths more, cut
        int[][] want = {{1, 1, 1}, {16, 16, 16}, {17, 18, 17}, {33, 34, 33}, {34, 36, 34}, {49, 51, 49}, {50, 53, 51},
            {99, 104, 100}, {100, 106, 102}, {999, 1058, 1018}, {1000, 1060, 1020}, {4983, 5281, 5082}, {4984, 5283, 5083},
            {4999, 5298, 5098}, {5000, 5300, 5100}};
        for (int[] w : want) {
            Check.due(w[0] + " with sun", warmed(w[0], false), w[1]);
            Check.due(w[0] + " with cloud", warmed(w[0], true), w[2]);
        }
        BalloonHouse none = new BalloonHouse();
        none.balloon(100, 10);
        none.hours(6);
        Check.due("no gas, no lift", none.of(0, 8), 0);
    }

    private static int lift(int gas, int purity) {
        BalloonHouse h = new BalloonHouse();
        h.balloon(5000, 10);
        h.cylinder(gas, purity, 0);
        h.fill(0, gas, purity);
        return h.of(0, 8);
    }

    private static void liftIsCut() {
        Check.due("99 of 100", lift(1, 99), 0);
        Check.due("one", lift(1, 100), 1);
        Check.due("99.99", lift(101, 99), 99);
        Check.due("100", lift(200, 50), 100);
        Check.due("9.99", lift(999, 1), 9);
        Check.due("10", lift(1000, 1), 10);
        Check.due("1,000", lift(1000, 100), 1000);
        // Pure gas of 5,000 at each level, by night: 100, 92, 84, 77, 70, 64, 58 hundredths.
        BalloonHouse top = Check.houseWith(5000, 10, 4999, 0);
        top.start(0, 5, 5);
        int[] want = {4599, 4199, 3849, 3499, 3199};
        for (int i = 0; i < want.length; i++) {
            top.hours(1);
            Check.due("at level " + (i + 1), top.of(0, 8), want[i]);
        }
        top.hours(1);
        Check.row("at level 6, the sun is just to come", Check.of(top, 0, 3, 4, 8), 6, 4999, 5298 * 58 / 100);
        top.hours(1);
        // 4,717 and 283 are 5,000: 2,900
        Check.row("warmed to its volume", Check.of(top, 0, 4, 8), 4717, 2900);
    }

    private static void windsOfTheFirstAndLastHour() {
        BalloonHouse first = Check.houseWith(1000, 10, 1000, 0);
        Check.due("hour 0", first.wind(1, 3, 0, 1, -3, 3), 1);
        first.start(0, 12, 12);
        first.hours(2);
        Check.row("carried in hour 0 alone", Check.of(first, 0, 1, 2), 9, 15);
        Check.due("found", first.found(1, 3, 0), 6);
        Check.due("then at level 2 of area 2", first.found(2, 2, 1), 33);
        BalloonHouse last = Check.houseWith(1000, 10, 1000, 0);
        Check.due("hour 999", last.wind(1, 0, 999, 1, 3, -3), 1);
        Check.hoursTo(last, 999);
        Check.due("still to come", last.wind(2, 0, 999, 1, 1, 1), 1);
        last.start(0, 4, 4);
        Check.due("the last hour", last.hours(1), 1000);
        Check.row("carried in hour 999", Check.of(last, 0, 0, 1, 2), 1, 7, 1);
        Check.due("found in 999", last.found(1, 0, 999), 60);
        Check.due("not in 998", last.found(1, 0, 998), -1);
        Check.due("at 1,000 it is over", last.wind(1, 0, 999, 1, 0, 0), -1);
        Check.due("as it was", last.found(1, 0, 999), 60);
    }

    private static void windsThatAreOver() {
        BalloonHouse h = new BalloonHouse();
        Check.due("hour 0 at 0", h.wind(1, 0, 0, 1, 1, 1), 1);
        h.hours(5);
        Check.due("4 at 5", h.wind(1, 0, 4, 1, 2, 2), -1);
        Check.due("4 and 5 at 5", h.wind(1, 0, 4, 2, 2, 2), -1);
        Check.due("4 and all behind", h.wind(1, 0, 4, 996, 2, 2), -1);
        Check.due("5 at 5", h.wind(1, 0, 5, 1, 2, 2), 1);
        Check.due("5 and all behind", h.wind(1, 0, 5, 995, 2, 2), 1);
        h.sight(4, 5, 5);
        h.sight(5, 5, 5);
        Check.due("hour 4 is as it was", h.ways(), 6);
        h.clear();
        h.sight(5, 5, 5);
        h.sight(6, 7, 7);
        Check.due("hour 5 is not", h.ways(), 1);
    }

    private static void lastWindCounts() {
        BalloonHouse h = new BalloonHouse();
        h.wind(3, 0, 10, 10, 1, 0);
        h.wind(3, 0, 12, 2, 0, 1);
        int[][] want = {{9, 0, 0}, {10, 1, 0}, {11, 1, 0}, {12, 0, 1}, {13, 0, 1}, {14, 1, 0}, {19, 1, 0}, {20, 0, 0}};
        for (int[] w : want) {
            h.clear();
            h.sight(w[0], 5, 5);
            h.sight(w[0] + 1, 5 + w[1], 5 + w[2]);
            Check.due("hour " + w[0], h.ways(), w[1] == 0 && w[2] == 0 ? 6 : 1);
        }
    }

    private static void forecastsAtTheirEnds() {
        BalloonHouse h = new BalloonHouse();
        int[][] winds = {{-3, -3, 0}, {-3, 3, 6}, {3, -3, 60}, {3, 3, 66}, {0, 0, 33}, {-1, 2, 25}};
        for (int i = 0; i < winds.length; i++) {
            Check.due("told", h.forecast(i + 1, i % 4, 100, 3, winds[i][0], winds[i][1]), i + 1);
            int[] want = {33, winds[i][2], winds[i][2], winds[i][2], 33};
            for (int hour = 99; hour <= 103; hour++) {
                Check.due("hour " + hour, h.told(i + 1, i % 4, hour, 0), want[hour - 99]);
            }
        }
        Check.due("from the first hour", h.forecast(6, 3, 0, 1, 1, 1), 7);
        Check.row("just that", new int[] {h.told(6, 3, 0, 0), h.told(6, 3, 1, 0)}, 44, 33);
        Check.due("to the last hour", h.forecast(6, 3, 999, 1, 2, 2), 8);
        Check.row("just that", new int[] {h.told(6, 3, 999, 0), h.told(6, 3, 998, 0)}, 55, 33);
        Check.due("all hours", h.forecast(6, 3, 0, 1000, -1, -1), 9);
        Check.row("all", new int[] {h.told(6, 3, 0, 0), h.told(6, 3, 500, 0), h.told(6, 3, 999, 0)}, 22, 22, 22);
        Check.row("no other", new int[] {h.told(6, 0, 0, 0), h.told(6, 2, 0, 0), h.told(5, 3, 0, 0)}, 33, 33, 33);
    }

    private static void forecastsByTheHourTheyWereTold() {
        BalloonHouse h = new BalloonHouse();
        h.forecast(2, 1, 50, 1, 1, 0);
        h.hours(5);
        h.forecast(2, 1, 50, 1, 2, 0);
        h.hours(1);
        h.forecast(2, 1, 50, 1, 3, 0);
        h.forecast(2, 1, 50, 1, -1, 0);
        int[][] want = {{-1, 33}, {0, 43}, {4, 43}, {5, 53}, {6, 23}, {7, 23}, {1000, 23}};
        for (int[] w : want) {
            Check.due("as known at " + w[0], h.told(2, 1, 50, w[0]), w[1]);
        }
        Check.hoursTo(h, 1000);
        Check.due("told at 1,000", h.forecast(2, 1, 50, 1, 0, -3), 5);
        Check.due("known at 999", h.told(2, 1, 50, 999), 23);
        Check.due("known at 1,000", h.told(2, 1, 50, 1000), 30);
    }

    private static void hundredForecasts() {
        BalloonHouse h = new BalloonHouse();
        for (int i = 1; i <= 99; i++) {
            h.forecast(1, 0, i, 1, 1, 1);
        }
        Check.due("the hundredth", h.forecast(1, 0, 500, 1, 1, 1), 100);
        Check.due("it counts", h.told(1, 0, 500, 0), 44);
        Check.due("no more", h.forecast(1, 0, 501, 1, 1, 1), -1);
        Check.due("it does not", h.told(1, 0, 501, 0), 33);
        Check.due("nor over another", h.forecast(1, 0, 500, 1, 2, 2), -1);
        Check.due("that stays", h.told(1, 0, 500, 0), 44);
        h.hours(1);
        Check.due("nor later", h.forecast(1, 0, 501, 1, 1, 1), -1);
        Check.due("100", h.count(3), 100);
    }

    private static void nothingIsFoundOnTheGround() {
        BalloonHouse h = Check.houseWith(1000, 100, 1000, 0);
        h.hours(1);
        Check.due("at home", h.count(9), 0);
        h.start(0, 5, 5);
        Check.due("at its start", h.count(9), 0);
        h.act(0, 2, 1000);
        h.hours(1);
        Check.row("landed at once", Check.of(h, 0, 0, 3), 2, 0);
        Check.due("landed", h.count(9), 0);
        h.hours(3);
        Check.due("nor later", h.count(9), 0);
        BalloonHouse down = Check.houseWith(1000, 100, 1000, 0);
        down.start(0, 5, 5);
        down.hours(2);
        down.act(0, 2, 1000);
        down.hours(1);
        Check.row("down to level 1", Check.of(down, 0, 0, 3), 1, 1);
        Check.due("it finds there", down.count(9), 3);
        down.hours(1);
        Check.row("down", Check.of(down, 0, 0, 3), 2, 0);
        Check.due("and no more", down.count(9), 3);
    }
}
