/** Promises 2 to 6: wind, forecast, told, found, cloud. */
public final class WindTest {
    public static void main(String[] args) {
        wrongWinds();
        windsAreTrue();
        windsOver();
        forecasts();
        forecastsAreLimited();
        foundWinds();
        clouds();
        Check.end();
    }

    private static void wrongWinds() {
        BalloonHouse h = new BalloonHouse();
        int[][] wrong = {
            {0, 0, 0, 1, 0, 0}, {7, 0, 0, 1, 0, 0}, {1, -1, 0, 1, 0, 0}, {1, 4, 0, 1, 0, 0}, {1, 0, -1, 1, 0, 0},
            {1, 0, 1000, 1, 0, 0}, {1, 0, 0, 0, 0, 0}, {1, 0, 0, -1, 0, 0}, {1, 0, 0, 1001, 0, 0}, {1, 0, 999, 2, 0, 0},
            {1, 0, 5, Integer.MAX_VALUE, 0, 0}, {1, 0, 0, 1, -4, 0}, {1, 0, 0, 1, 4, 0}, {1, 0, 0, 1, 0, -4},
            {1, 0, 0, 1, 0, 4}};
        for (int[] w : wrong) {
            String what = java.util.Arrays.toString(w);
            Check.illegal("wind" + what, () -> h.wind(w[0], w[1], w[2], w[3], w[4], w[5]));
            Check.illegal("forecast" + what, () -> h.forecast(w[0], w[1], w[2], w[3], w[4], w[5]));
        }
        Check.due("no forecast was taken", h.count(3), 0);
        Check.due("all hours", h.wind(6, 3, 0, 1000, -3, 3), 1);
        Check.due("last hour", h.wind(6, 3, 999, 1, 3, -3), 1);
        for (int[] w : new int[][] {{0, 0, 0}, {7, 0, 0}, {1, -1, 0}, {1, 4, 0}, {1, 0, -1}, {1, 0, 1000}}) {
            Check.illegal("told", () -> h.told(w[0], w[1], w[2], 0));
            Check.illegal("found", () -> h.found(w[0], w[1], w[2]));
        }
    }

    /** Each level and area has winds of its own, and the later call counts. */
    private static void windsAreTrue() {
        BalloonHouse h = Check.houseWith(1000, 100, 1000, 0);
        h.wind(1, 0, 0, 5, 3, 3);
        h.wind(1, 1, 0, 5, -1, 2);
        h.wind(1, 1, 0, 1, -2, -1);
        h.wind(2, 0, 0, 5, 1, 1);
        h.wind(2, 1, 1, 1, 2, 0);
        h.wind(2, 1, 2, 1, 3, 0);
        h.start(0, 12, 11);
        h.hours(1);
        Check.row("level 1 in area 1", Check.of(h, 0, 1, 2, 3), 10, 10, 1);
        h.hours(1);
        Check.row("level 2 in area 0", Check.of(h, 0, 1, 2, 3), 11, 11, 2);
    }

    private static void windsOver() {
        BalloonHouse h = Check.houseWith(1000, 100, 1000, 0);
        h.wind(1, 0, 0, 9, 1, 0);
        h.start(0, 1, 1);
        h.hours(1);
        Check.due("an hour over", h.wind(1, 0, 0, 1, 2, 2), -1);
        Check.due("one of them is over", h.wind(1, 0, 0, 900, 2, 2), -1);
        Check.due("it stays as it was", h.found(1, 0, 0), 43);
        Check.illegal("wrong, though over", () -> h.wind(0, 0, 0, 1, 2, 2));
        Check.due("this hour is not over", h.wind(2, 0, 1, 1, 2, -2), 1);
        h.hours(1);
        Check.due("the wind that was told in time", h.found(2, 0, 1), 51);
    }

    private static void forecasts() {
        BalloonHouse h = new BalloonHouse();
        Check.due("first", h.forecast(3, 2, 5, 2, -3, 3), 1);
        Check.due("told", h.told(3, 2, 5, 0), 6);
        Check.due("to its end", h.told(3, 2, 6, 0), 6);
        Check.due("not ahead", h.told(3, 2, 4, 0), 33);
        Check.due("not behind", h.told(3, 2, 7, 0), 33);
        Check.due("not in another area", h.told(3, 1, 5, 0), 33);
        Check.due("not at another level", h.told(2, 2, 5, 0), 33);
        Check.due("a forecast is no wind", h.found(3, 2, 5), -1);
        h.hours(4);
        Check.due("second", h.forecast(3, 2, 6, 1, 1, 0), 2);
        Check.due("third, of the same hour", h.forecast(3, 2, 6, 1, 2, 0), 3);
        Check.due("the last one counts", h.told(3, 2, 6, 4), 53);
        Check.due("as known ahead of it", h.told(3, 2, 6, 3), 6);
        Check.due("as known later", h.told(3, 2, 6, 1000), 53);
        Check.due("the other hour", h.told(3, 2, 5, 4), 6);
        Check.due("known by none", h.told(3, 2, 5, -1), 33);
        Check.due("of hours that are over too", h.forecast(1, 0, 0, 2, 1, 1), 4);
        Check.due("of hours that are over", h.told(1, 0, 1, 4), 44);
        Check.due("count", h.count(3), 4);
    }

    private static void forecastsAreLimited() {
        BalloonHouse h = new BalloonHouse();
        for (int i = 1; i <= 100; i++) {
            Check.due("forecast", h.forecast(1, 0, 0, 1000, 0, 1), i);
        }
        Check.due("one more", h.forecast(1, 0, 0, 1000, 0, 2), -1);
        Check.illegal("a wrong one more", () -> h.forecast(1, 0, 0, 1000, 0, 4));
        Check.due("it does not count", h.told(1, 0, 0, 0), 34);
        Check.due("there are 100", h.count(3), 100);
    }

    private static void foundWinds() {
        BalloonHouse h = Check.houseWith(1000, 100, 1000, 0);
        h.balloon(1000, 100);
        Check.fillPure(h, 1, 1000);
        h.wind(1, 3, 0, 10, 3, 0);
        h.wind(2, 3, 0, 10, -2, 1);
        h.start(0, 12, 12);
        h.start(1, 23, 20);
        Check.due("not found yet", h.found(1, 3, 0), -1);
        h.hours(1);
        Check.due("found, though one left by it", h.found(1, 3, 0), 63);
        Check.due("left", h.of(1, 0), 3);
        Check.due("just that area", h.found(1, 0, 0), -1);
        Check.due("just that level", h.found(2, 3, 0), -1);
        Check.due("just that hour", h.found(1, 3, 1), -1);
        Check.due("found by two, counted once", h.count(9), 1);
        h.hours(1);
        Check.due("the next", h.found(2, 3, 1), 14);
        Check.due("two", h.count(9), 2);
        h.home(1);
        Check.due("found for good", h.found(1, 3, 0), 63);
    }

    private static void clouds() {
        BalloonHouse h = Check.houseWith(2000, 10, 1000, 0);
        Check.illegal("from", () -> h.cloud(-1, 1, true));
        Check.illegal("from 1,000", () -> h.cloud(1000, 1, true));
        Check.illegal("none", () -> h.cloud(0, 0, true));
        Check.illegal("beyond", () -> h.cloud(990, 11, true));
        Check.due("to the end", h.cloud(990, 10, true), 1);
        Check.due("some", h.cloud(4, 5, true), 1);
        Check.due("less", h.cloud(7, 1, false), 1);
        int[] want = {1000, 1000, 1020, 1060, 1020, 1060};
        h.hours(4);
        for (int i = 0; i < want.length; i++) {
            Check.due("lift in hour " + (4 + i), h.of(0, 8), want[i]);
            h.hours(1);
        }
        h.hours(7);
        Check.due("hour 17 has sun", h.of(0, 8), 1060);
        h.hours(1);
        Check.due("hour 18 has none", h.of(0, 8), 1000);
        Check.due("cloud by night", h.cloud(18, 1, true), 1);
        Check.due("does nothing", h.of(0, 8), 1000);
    }
}
