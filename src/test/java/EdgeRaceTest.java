/** Edges of the race, its results and ranks, and of what is counted (terms 6, promises 31 to 34). */
public final class EdgeRaceTest {
    public static void main(String[] args) {
        enteredInEachState();
        resultsInEachState();
        waysAreCut();
        farthestWay();
        pointsBeyondTheWay();
        asManyPointsAsThereMayBe();
        knownFromThreeHoursBehind();
        knownAtTheEnd();
        ranksOfSix();
        ranksByNumber();
        ranksOfThoseKnown();
        homeAgain();
        flownAnew();
        countsFromEmptyToFull();
        countsOfOthers();
        Check.end();
    }

    private static final int NOTHING = -1000000;

    private static void enteredInEachState() {
        BalloonHouse h = Check.houseWith(1000, 10, 900, 0);
        Check.due("at home", h.enter(0), 1);
        Check.due("entered", h.enter(0), -1);
        h.start(0, 5, 5);
        Check.due("flying, entered", h.enter(0), -1);
        h.act(0, 2, 1000);
        h.hours(1);
        Check.due("landed, entered", h.enter(0), -1);
        h.home(0);
        Check.due("at home again", h.enter(0), 1);
        Check.due("entered again", h.enter(0), -1);
        BalloonHouse late = Check.houseWith(1000, 10, 900, 0);
        late.wind(1, 0, 0, 1, -1, 0);
        late.start(0, 0, 5);
        Check.due("flying", late.enter(0), -1);
        late.hours(1);
        Check.due("left", late.of(0, 0), 3);
        Check.due("left", late.enter(0), -1);
        Check.due("so there is no result", late.result(0), NOTHING);
        Check.due("nor rank", late.ranked(1000, 0), -1);
        BalloonHouse empty = new BalloonHouse();
        empty.balloon(100, 10);
        Check.due("without gas", empty.enter(0), 1);
    }

    private static void resultsInEachState() {
        BalloonHouse h = Check.houseWith(1000, 10, 900, 0);
        h.enter(0);
        Check.due("at home", h.result(0), NOTHING);
        h.start(0, 5, 5);
        Check.due("started", h.result(0), NOTHING);
        h.hours(1);
        Check.due("flying", h.result(0), NOTHING);
        h.act(0, 2, 1000);
        h.hours(1);
        Check.row("landed", new int[] {h.of(0, 0), h.result(0)}, 2, 0);
        h.hours(100);
        Check.due("for good", h.result(0), 0);
        h.home(0);
        Check.due("at home", h.result(0), NOTHING);
        BalloonHouse left = Check.houseWith(1000, 10, 900, 0);
        left.wind(1, 0, 0, 1, 3, 0);
        left.wind(2, 0, 1, 1, -3, 0);
        left.wind(3, 0, 2, 1, 0, -3);
        left.enter(0);
        left.start(0, 2, 2);
        left.hours(3);
        Check.row("left where it was", Check.of(left, 0, 0, 1, 2), 3, 2, 2);
        Check.due("left", left.result(0), 0);
        BalloonHouse not = Check.houseWith(1000, 10, 900, 0);
        not.start(0, 5, 5);
        not.act(0, 2, 1000);
        not.hours(1);
        Check.due("landed, not entered", not.result(0), NOTHING);
    }

    /** The result of one that is carried so far and comes down there. */
    private static int resultOf(int dx, int dy) {
        BalloonHouse h = Check.houseWith(1000, 10, 900, 0);
        int x = 0;
        int y = 0;
        int hours = Math.max((Math.abs(dx) + 2) / 3, (Math.abs(dy) + 2) / 3);
        for (int hour = 0; hour < hours; hour++) {
            int pullX = Math.max(-3, Math.min(3, dx - x));
            int pullY = Math.max(-3, Math.min(3, dy - y));
            for (int area = 0; area < 4; area++) {
                h.wind(Math.min(hour + 1, 6), area, hour, 1, pullX, pullY);
            }
            x += pullX;
            y += pullY;
        }
        h.enter(0);
        h.start(0, dx < 0 ? 23 : 0, dy < 0 ? 23 : 0);
        h.hours(hours);
        while (h.of(0, 0) == 1) {
            h.act(0, 2, 1000);
            h.hours(1);
        }
        Check.row("it came there", Check.of(h, 0, 0, 1, 2), 2, (dx < 0 ? 23 : 0) + dx, (dy < 0 ? 23 : 0) + dy);
        return h.result(0);
    }

    private static void waysAreCut() {
        // way along x, along y, ten times the straight way, cut
        int[][] want = {{0, 0, 0}, {1, 0, 10}, {0, -1, 10}, {1, 1, 14}, {1, 2, 22}, {2, 2, 28}, {3, 4, 50}, {-5, -12, 130},
            {2, 3, 36}, {1, 7, 70}, {5, 5, 70}, {7, 7, 98}, {23, 0, 230}, {0, 23, 230}, {10, 17, 197}, {12, 17, 208}};
        for (int[] w : want) {
            Check.due("ten times " + w[0] + ", " + w[1], resultOf(w[0], w[1]), w[2]);
        }
    }

    private static void farthestWay() {
        // ten times the root of 1,058 is 325.27
        Check.due("from corner to corner", resultOf(23, 23), 325);
        Check.due("and back", resultOf(-23, -23), 325);
        Check.due("crosswise", resultOf(23, -23), 325);
        Check.due("one less", resultOf(22, 23), 318);
    }

    private static void pointsBeyondTheWay() {
        for (int[] w : new int[][] {{9, 1}, {10, 0}, {11, -1}, {100, -90}}) {
            BalloonHouse h = Check.houseWith(1000, 10, 900, 0);
            h.wind(1, 0, 0, 1, 1, 0);
            h.zone(0, 575, 16, 0, 0, w[0]);
            h.enter(0);
            h.start(0, 5, 5);
            h.hours(1);
            h.act(0, 2, 1000);
            h.hours(1);
            Check.due("10 less " + w[0], h.result(0), w[1]);
        }
    }

    /** Ten zones of 100 points in each of 1,000 hours: a result that is as NOTHING, but is one. */
    private static void asManyPointsAsThereMayBe() {
        BalloonHouse h = Check.houseWith(1000, 10, 900, 0);
        for (int i = 0; i < 10; i++) {
            h.zone(0, 575, 6, 0, 1000, 100);
        }
        h.balloon(1000, 10);
        Check.fillPure(h, 1, 900);
        h.enter(0);
        h.enter(1);
        h.wind(6, 0, 999, 1, -1, 0);
        h.start(0, 0, 5);
        h.start(1, 5, 5);
        Check.hoursTo(h, 999);
        h.act(1, 2, 1000);
        h.hours(1);
        Check.row("points", new int[] {h.of(0, 0), h.of(0, 9), h.of(1, 0), h.of(1, 9)}, 3, 1000000, 1, 1000000);
        Check.due("less all of them", h.result(0), -1000000);
        Check.row("known from 1,002 on", new int[] {h.ranked(1001, 0), h.ranked(1002, 0), h.ranked(1002, 1)}, -1, 0, -1);
    }

    private static void knownFromThreeHoursBehind() {
        for (int end : new int[] {0, 5}) {
            BalloonHouse down = Check.houseWith(1000, 10, 900, 0);
            BalloonHouse gone = Check.houseWith(1000, 10, 900, 0);
            gone.wind(1, 0, end, 1, -1, 0);
            for (BalloonHouse h : new BalloonHouse[] {down, gone}) {
                h.hours(end);
                h.enter(0);
                h.start(0, 0, 5);
                Check.due("flying", h.ranked(1000, 0), -1);
            }
            down.act(0, 2, 1000);
            down.hours(1);
            gone.hours(1);
            Check.row("landed, left", new int[] {down.of(0, 0), gone.of(0, 0)}, 2, 3);
            for (BalloonHouse h : new BalloonHouse[] {down, gone}) {
                for (int hour = end - 1; hour <= end + 6; hour++) {
                    Check.due("at " + hour, h.ranked(hour, 0), hour >= end + 3 ? 0 : -1);
                }
                h.hours(50);
                Check.row("later no other", new int[] {h.ranked(end + 2, 0), h.ranked(end + 3, 0)}, -1, 0);
                Check.due("at the greatest", h.ranked(Integer.MAX_VALUE, 0), 0);
                Check.due("at the least", h.ranked(Integer.MIN_VALUE, 0), -1);
                Check.due("below 0", h.ranked(-1, 0), -1);
            }
        }
    }

    private static void knownAtTheEnd() {
        BalloonHouse h = Check.houseWith(1000, 10, 900, 0);
        h.enter(0);
        Check.hoursTo(h, 999);
        h.start(0, 5, 5);
        h.act(0, 2, 1000);
        h.hours(1);
        Check.row("landed in 999", Check.of(h, 0, 0, 10), 2, 1);
        Check.row("known from 1,002 on", new int[] {h.ranked(1000, 0), h.ranked(1001, 0), h.ranked(1002, 0)}, -1, -1, 0);
    }

    /** Six that fly from a square each by a wind of their own area and level, and come down in the next hour. */
    private static BalloonHouse sixLanded(int... ways) {
        BalloonHouse h = new BalloonHouse();
        for (int i = 0; i < 6; i++) {
            h.balloon(100, 10);
            Check.fillPure(h, i, 100);
            h.enter(i);
        }
        for (int hour = 0; hour < 6; hour++) {
            for (int area = 0; area < 4; area++) {
                h.wind(1, area, 2 * hour, 1, ways[hour], 0);
            }
        }
        for (int i = 0; i < 6; i++) {
            h.start(i, 9, 9);
            h.hours(1);
            h.act(i, 2, 1000);
            h.hours(1);
        }
        return h;
    }

    private static int[] ranks(BalloonHouse h, int hour) {
        int[] got = new int[8];
        for (int k = -1; k <= 6; k++) {
            got[k + 1] = h.ranked(hour, k);
        }
        return got;
    }

    private static void ranksOfSix() {
        BalloonHouse h = sixLanded(1, -3, 0, 2, 3, -2);
        int[] results = new int[6];
        for (int i = 0; i < 6; i++) {
            results[i] = h.result(i);
        }
        Check.row("results", results, 10, 30, 0, 20, 30, 20);
        Check.row("all", ranks(h, 14), -1, 1, 4, 3, 5, 0, 2, -1);
        Check.row("all but the last that landed", ranks(h, 13), -1, 1, 4, 3, 0, 2, -1, -1);
        Check.row("the first alone", ranks(h, 4), -1, 0, -1, -1, -1, -1, -1, -1);
        Check.row("none yet", ranks(h, 3), -1, -1, -1, -1, -1, -1, -1, -1);
        Check.due("far above", h.ranked(14, Integer.MAX_VALUE), -1);
        Check.due("far below", h.ranked(14, Integer.MIN_VALUE), -1);
    }

    private static void ranksByNumber() {
        Check.row("all alike", ranks(sixLanded(1, 1, 1, 1, 1, 1), 1000), -1, 0, 1, 2, 3, 4, 5, -1);
        Check.row("falling", ranks(sixLanded(3, -3, 2, -2, 1, 0), 1000), -1, 0, 1, 2, 3, 4, 5, -1);
        Check.row("rising", ranks(sixLanded(0, 1, -2, 2, -3, 3), 1000), -1, 4, 5, 2, 3, 1, 0, -1);
    }

    /** As known at an hour: one that is better but was known later does not count yet. */
    private static void ranksOfThoseKnown() {
        BalloonHouse h = sixLanded(0, 1, 2, 3, 0, 0);
        for (int known = 0; known < 4; known++) {
            for (int hour = 4 + 2 * known; hour < 6 + 2 * known; hour++) {
                Check.due("the best known by " + hour, h.ranked(hour, 0), known);
                Check.due("the last known by " + hour, h.ranked(hour, known), 0);
                Check.due("no more by " + hour, h.ranked(hour, known + 1), -1);
            }
        }
    }

    private static void homeAgain() {
        BalloonHouse h = sixLanded(3, 2, 1, 0, 1, 2);
        Check.row("all", ranks(h, 1000), -1, 0, 1, 5, 2, 4, 3, -1);
        h.home(0);
        Check.row("the first is at home", ranks(h, 1000), -1, 1, 5, 2, 4, 3, -1, -1);
        h.enter(0);
        Check.row("entered, but without a result", ranks(h, 1000), -1, 1, 5, 2, 4, 3, -1, -1);
        for (int i = 1; i < 6; i++) {
            h.home(i);
        }
        Check.row("all at home", ranks(h, 1000), -1, -1, -1, -1, -1, -1, -1, -1);
    }

    /** Ranks of an hour that is over are by what is so now: the first flight is gone. */
    private static void flownAnew() {
        BalloonHouse h = Check.houseWith(1000, 10, 900, 0);
        h.wind(1, 0, 0, 1, 1, 0);
        h.wind(1, 0, 10, 1, 3, 0);
        h.enter(0);
        for (int hour : new int[] {0, 10}) {
            Check.hoursTo(h, hour);
            h.home(0);
            h.enter(0);
            Check.fillPure(h, 0, 900);
            Check.due("start", h.start(0, 5, 5), 1);
            h.hours(1);
            h.act(0, 2, 1000);
            h.hours(1);
            Check.due("result", h.result(0), hour == 0 ? 10 : 30);
            Check.row("known from", new int[] {h.ranked(hour + 3, 0), h.ranked(hour + 4, 0)}, -1, 0);
        }
        Check.due("no more by 4", h.ranked(4, 0), -1);
        h.home(0);
        Check.fillPure(h, 0, 900);
        h.start(0, 5, 5);
        h.act(0, 2, 1000);
        h.hours(1);
        Check.row("a flight that was not entered", new int[] {h.result(0), h.ranked(1000, 0)}, NOTHING, -1);
    }

    private static int[] counts(BalloonHouse h) {
        int[] got = new int[10];
        for (int what = 0; what < 10; what++) {
            got[what] = h.count(what);
        }
        return got;
    }

    private static void countsFromEmptyToFull() {
        BalloonHouse h = new BalloonHouse();
        Check.row("empty", counts(h), 0, 0, 0, 0, 0, 0, 0, 0, 0, 0);
        for (int i = 0; i < 11; i++) {
            h.cylinder(100, 100, 1);
            h.zone(0, 0, 0, 0, 0, 1);
        }
        for (int i = 0; i < 6; i++) {
            h.balloon(100, 10);
            h.fill(i, 100, 100);
            h.start(i, 4 * i, 4 * i);
        }
        for (int i = 0; i < 101; i++) {
            h.forecast(1, 0, 0, 1, 0, 0);
        }
        for (int i = 0; i < 31; i++) {
            h.sight(i, 0, 0);
            h.log(1, 1);
        }
        for (int i = 0; i < 16; i++) {
            h.feed(0, 0, 0, 0, 0);
        }
        Check.row("full", counts(h), 0, 6, 4, 100, 10, 12, 30, 6, 300, 0);
        h.hours(1);
        // 0, 4 and 8 are in area 0, the others in area 3: two winds of one hour
        Check.row("an hour", counts(h), 1, 6, 4, 100, 10, 12, 30, 6, 300, 2);
        h.act(0, 2, 1000);
        h.hours(1);
        Check.row("one is down", counts(h), 2, 6, 4, 100, 10, 12, 30, 5, 300, 4);
        h.clear();
        h.unlog();
        h.orders(0, 0);
        Check.row("some are gone", counts(h), 2, 6, 4, 100, 10, 0, 0, 5, 0, 4);
        Check.hoursTo(h, 1000);
        Check.row("the last hour", counts(h), 1000, 6, 4, 100, 10, 0, 0, 5, 0, 2000);
    }

    private static void countsOfOthers() {
        BalloonHouse h = Check.houseWith(1000, 10, 900, 0);
        for (int what : new int[] {-1, 10, 11, 100, Integer.MIN_VALUE, Integer.MAX_VALUE}) {
            Check.due("count of " + what, h.count(what), -1);
        }
    }
}
