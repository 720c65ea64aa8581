/** Promises 23 and 31 to 34: zone, enter, result, ranked, count. */
public final class RaceTest {
    public static void main(String[] args) {
        wrongZones();
        inZones();
        enter();
        results();
        ranked();
        counts();
        Check.end();
    }

    private static void wrongZones() {
        BalloonHouse h = new BalloonHouse();
        int[][] wrong = {
            {-1, 0, 16, 0, 5, 7}, {576, 0, 16, 0, 5, 7}, {0, -1, 16, 0, 5, 7}, {0, 576, 16, 0, 5, 7},
            {0, 1, -1, 0, 5, 7}, {0, 1, 7, 0, 5, 7}, {0, 1, 67, 0, 5, 7}, {0, 1, 70, 0, 5, 7}, {0, 1, 77, 0, 5, 7},
            {0, 1, 61, 0, 5, 7}, {0, 1, 10, 0, 5, 7}, {0, 1, 106, 0, 5, 7}, {0, 1, 16, -1, 5, 7}, {0, 1, 16, 0, 1001, 7},
            {0, 1, 16, 6, 5, 7}, {0, 1, 16, 1001, 1001, 7}, {0, 1, 16, 0, 5, 0}, {0, 1, 16, 0, 5, 101}};
        for (int[] w : wrong) {
            Check.illegal("zone" + java.util.Arrays.toString(w), () -> h.zone(w[0], w[1], w[2], w[3], w[4], w[5]));
        }
        Check.due("none was made", h.count(4), 0);
        Check.due("widest", h.zone(0, 575, 6, 0, 1000, 100), 0);
        Check.due("narrowest", h.zone(575, 575, 66, 1000, 1000, 1), 1);
        for (int i = 2; i < 10; i++) {
            Check.due("number", h.zone(575, 0, 0, 5, 5, 1), i);
        }
        Check.due("an eleventh", h.zone(0, 575, 6, 0, 1000, 100), -1);
        Check.illegal("a wrong eleventh", () -> h.zone(0, 575, 6, 0, 1000, 101));
        Check.due("ten", h.count(4), 10);
    }

    private static int square(int x, int y) {
        return 24 * y + x;
    }

    /** Points lost in the first hour by one that comes to 7, 9 at level 1 in hour 2. */
    private static int lost(int ax, int ay, int bx, int by, int levels, int from, int to) {
        BalloonHouse h = Check.houseWith(1000, 10, 1000, 0);
        h.hours(2);
        h.wind(1, 0, 2, 1, 2, 3);
        h.zone(square(ax, ay), square(bx, by), levels, from, to, 9);
        h.start(0, 5, 6);
        h.hours(1);
        return h.of(0, 9);
    }

    private static void inZones() {
        Check.due("in it", lost(7, 9, 7, 9, 11, 2, 2), 9);
        Check.due("the other way round", lost(8, 10, 6, 8, 16, 0, 1000), 9);
        Check.due("crosswise", lost(8, 8, 6, 10, 16, 0, 1000), 9);
        Check.due("the start does not count", lost(5, 6, 6, 8, 6, 0, 1000), 0);
        Check.due("x below", lost(0, 0, 6, 23, 6, 0, 1000), 0);
        Check.due("x above", lost(8, 0, 23, 23, 6, 0, 1000), 0);
        Check.due("y below", lost(0, 0, 23, 8, 6, 0, 1000), 0);
        Check.due("y above", lost(0, 10, 23, 23, 6, 0, 1000), 0);
        Check.due("level below", lost(0, 0, 23, 23, 0, 0, 1000), 0);
        Check.due("level above", lost(0, 0, 23, 23, 26, 0, 1000), 0);
        Check.due("level up to", lost(0, 0, 23, 23, 1, 0, 1000), 9);
        Check.due("hour ahead", lost(0, 0, 23, 23, 6, 0, 1), 0);
        Check.due("hour behind", lost(0, 0, 23, 23, 6, 3, 1000), 0);
        BalloonHouse two = Check.houseWith(1000, 10, 1000, 0);
        two.zone(0, 575, 16, 0, 1000, 9);
        two.zone(0, 575, 16, 1, 1000, 4);
        two.zone(0, 575, 0, 0, 1000, 50);
        two.start(0, 5, 5);
        two.hours(2);
        Check.due("each zone, each hour", two.of(0, 9), 22);
        two.wind(3, 0, 2, 1, -3, 0);
        two.hours(1);
        Check.row("flying still", Check.of(two, 0, 0, 9), 1, 35);
        two.wind(4, 0, 3, 1, -3, 0);
        two.hours(2);
        Check.row("left: lost too", Check.of(two, 0, 0, 9), 3, 48);
        BalloonHouse down = Check.houseWith(1000, 10, 1000, 0);
        down.zone(0, 575, 6, 0, 1000, 9);
        down.start(0, 5, 5);
        down.act(0, 2, 1000);
        down.hours(1);
        Check.row("landed: not lost", Check.of(down, 0, 0, 9), 2, 0);
    }

    private static void enter() {
        BalloonHouse h = Check.houseWith(1000, 10, 1000, 0);
        Check.noBalloon("none such", () -> h.enter(1));
        Check.noBalloon("none such", () -> h.enter(-1));
        Check.due("entered", h.enter(0), 1);
        Check.due("twice", h.enter(0), -1);
        h.balloon(1000, 10);
        Check.fillPure(h, 1, 1000);
        h.start(1, 5, 5);
        Check.due("flying", h.enter(1), -1);
        h.act(1, 2, 1000);
        h.hours(1);
        Check.due("landed", h.enter(1), -1);
        h.hours(9);
        Check.due("not entered: no result", h.result(1), -1000000);
        Check.due("not entered: not ranked", h.ranked(100, 0), -1);
    }

    /** The result of one flight by a wind to a place, with points lost each hour. */
    private static int resultBy(int dx, int dy, int hours, int points) {
        BalloonHouse h = Check.houseWith(1000, 10, 1000, 0);
        for (int level = 1; level <= 6; level++) {
            for (int area = 0; area < 4; area++) {
                h.wind(level, area, 0, hours, dx, dy);
            }
        }
        if (points > 0) {
            h.zone(0, 575, 16, 0, hours - 1, points);
        }
        h.enter(0);
        h.start(0, dx < 0 ? 23 : 0, dy < 0 ? 23 : 0);
        Check.due("flying", h.result(0), -1000000);
        h.hours(hours);
        for (int i = 0; i < 7 && h.of(0, 0) == 1; i++) {
            h.act(0, 2, 1000);
            h.hours(1);
        }
        Check.due("landed", h.of(0, 0), 2);
        return h.result(0);
    }

    private static void results() {
        BalloonHouse h = Check.houseWith(1000, 10, 1000, 0);
        Check.noBalloon("none such", () -> h.result(1));
        h.enter(0);
        Check.due("at home", h.result(0), -1000000);
        Check.due("along x", resultBy(2, 0, 3, 0), 60);
        Check.due("along y, back", resultBy(0, -1, 5, 0), 50);
        // ten times the root of 2 is 14.1, of 5 is 22.3, of 98 is 98.9, of 882 is 296.98
        Check.due("root of 2", resultBy(1, 1, 1, 0), 14);
        Check.due("root of 5", resultBy(-1, 2, 1, 0), 22);
        Check.due("root of 98", resultBy(1, -1, 7, 0), 98);
        Check.due("root of 882", resultBy(3, 3, 7, 0), 296);
        Check.due("less points", resultBy(3, 3, 7, 40), 16);
        Check.due("below 0", resultBy(1, 1, 1, 100), -86);
        Check.due("no way", resultBy(0, 0, 1, 0), 0);
    }

    private static void ranked() {
        BalloonHouse h = new BalloonHouse();
        for (int i = 0; i < 5; i++) {
            h.balloon(200, 10);
            Check.fillPure(h, i, 200);
            if (i != 3) {
                h.enter(i);
            }
        }
        for (int area = 0; area < 4; area++) {
            h.wind(1, area, 0, 9, 3, 0);
            h.wind(2, area, 0, 9, 3, 0);
        }
        h.start(0, 5, 5);
        h.start(1, 2, 15);
        h.start(2, 22, 2);
        h.start(3, 2, 2);
        h.start(4, 3, 20);
        h.hours(1);
        for (int i = 0; i < 5; i++) {
            if (i != 2) {
                h.act(i, 2, 1000);
            }
        }
        h.hours(1);
        // 2 left in hour 0, the others landed in hour 1
        Check.row("states", new int[] {h.of(0, 0), h.of(2, 0), h.of(4, 0)}, 2, 3, 2);
        Check.row("results", new int[] {h.result(0), h.result(1), h.result(2), h.result(3), h.result(4)},
            30, 30, 0, -1000000, 30);
        Check.due("none is known by 2", h.ranked(2, 0), -1);
        Check.due("2 is known from 3 on", h.ranked(3, 0), 2);
        Check.due("and no other", h.ranked(3, 1), -1);
        int[] order = {h.ranked(4, 0), h.ranked(4, 1), h.ranked(4, 2), h.ranked(4, 3), h.ranked(4, 4)};
        Check.row("the greatest first, then by number", order, 0, 1, 4, 2, -1);
        Check.due("k below 0", h.ranked(4, -1), -1);
        Check.due("hour below 0", h.ranked(-1, 0), -1);
        Check.due("far behind", h.ranked(Integer.MAX_VALUE, 3), 2);
        Check.due("far ahead", h.ranked(Integer.MIN_VALUE, 0), -1);
        h.home(0);
        Check.due("one went home", h.ranked(4, 0), 1);
        Check.due("three are left", h.ranked(4, 3), -1);
    }

    private static void counts() {
        BalloonHouse h = Check.houseWith(1000, 10, 1000, 0);
        h.cylinder(5, 5, 5);
        h.cylinder(5, 5, 5);
        h.balloon(100, 10);
        h.balloon(100, 10);
        for (int i = 0; i < 4; i++) {
            h.forecast(1, 0, 0, 1, 0, 0);
        }
        for (int i = 0; i < 5; i++) {
            h.zone(0, 0, 0, 0, 0, 1);
        }
        for (int i = 0; i < 6; i++) {
            h.sight(i, 0, 0);
        }
        for (int i = 0; i < 7; i++) {
            h.log(1, 1);
        }
        h.feed(1, 2, 3, 4, 5);
        h.start(0, 5, 5);
        h.hours(8);
        int[] got = new int[10];
        for (int i = 0; i < 10; i++) {
            got[i] = h.count(i);
        }
        Check.row("counts", got, 8, 3, 2, 4, 5, 6, 7, 1, 20, 8);
        for (int what : new int[] {-1, 10, Integer.MIN_VALUE, Integer.MAX_VALUE}) {
            Check.due("count of " + what, h.count(what), -1);
        }
    }
}
