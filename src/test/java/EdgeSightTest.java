/** Edges of sights, ways, the log and leaks (terms 5, promises 24 to 30). */
public final class EdgeSightTest {
    public static void main(String[] args) {
        hoursThatRise();
        fortyHours();
        twelveSights();
        fewerThanTwo();
        clearedThen();
        oneHour();
        levelsByOneAtMost();
        theFirstWay();
        firstWaysByOne();
        waysThatMeet();
        waysThatMeetAtOneLevel();
        waysAfterOthers();
        beyondTheField();
        sightsOnTheWay();
        waysToTheLimit();
        waysAlongTheSides();
        lastHours();
        thirtyAmounts();
        noLog();
        leaksAtTheirEnds();
        errorsAtTheirEnds();
        amountsAtTheirEnds();
        downToNothing();
        oneAndTheSameAmount();
        Check.end();
    }

    private static void hoursThatRise() {
        BalloonHouse h = new BalloonHouse();
        Check.due("any hour first", h.sight(500, 5, 5), 1);
        Check.due("that hour", h.sight(500, 5, 5), -2);
        Check.due("one less", h.sight(499, 5, 5), -2);
        Check.due("the first of all", h.sight(0, 5, 5), -2);
        Check.due("one more", h.sight(501, 5, 5), 2);
        Check.due("that of the last", h.sight(501, 5, 5), -2);
        Check.due("that of the first", h.sight(500, 5, 5), -2);
        Check.due("not behind the last", h.sight(503, 5, 5), 3);
        Check.due("between two", h.sight(502, 5, 5), -2);
        Check.due("three", h.count(5), 3);
        Check.due("cleared", h.clear(), 3);
        Check.due("then any hour again", h.sight(0, 5, 5), 1);
    }

    private static void fortyHours() {
        for (int first : new int[] {0, 1, 500, 959}) {
            BalloonHouse h = new BalloonHouse();
            h.sight(first, 5, 5);
            Check.due("41 behind", h.sight(first + 41 > 999 ? 999 : first + 41, 5, 5), first == 959 ? 2 : -2);
            if (first < 959) {
                Check.due("40 behind", h.sight(first + 40, 5, 5), 2);
                Check.due("none behind that", h.sight(first + 41, 5, 5), -2);
            }
        }
        BalloonHouse by = new BalloonHouse();
        by.sight(100, 5, 5);
        by.sight(139, 5, 5);
        Check.due("40 behind the first, not behind the last", by.sight(141, 5, 5), -2);
        Check.due("just 40", by.sight(140, 5, 5), 3);
    }

    private static void twelveSights() {
        BalloonHouse h = new BalloonHouse();
        for (int i = 1; i <= 12; i++) {
            Check.due("sight", h.sight(i, 5, 5), i);
        }
        Check.due("a thirteenth", h.sight(13, 5, 5), -1);
        Check.due("-1 comes ahead of -2", h.sight(12, 5, 5), -1);
        Check.due("too far: -1 all the same", h.sight(42, 5, 5), -1);
        Check.due("twelve", h.count(5), 12);
        Check.due("ways of eleven hours", h.ways(), 163594);
        Check.due("cleared", h.clear(), 12);
        Check.due("none", h.clear(), 0);
        Check.due("none", h.count(5), 0);
    }

    private static int[] ways(BalloonHouse h, int levels) {
        int[] got = new int[levels + 1];
        got[0] = h.ways();
        for (int k = 0; k < levels; k++) {
            got[k + 1] = h.way(k);
        }
        return got;
    }

    private static void fewerThanTwo() {
        BalloonHouse h = new BalloonHouse();
        Check.row("none", ways(h, 2), 0, -1, -1);
        h.sight(5, 5, 5);
        Check.row("one", ways(h, 2), 0, -1, -1);
        h.sight(6, 5, 5);
        Check.row("two", ways(h, 2), 6, 1, -1);
        h.clear();
        Check.row("none again", ways(h, 2), 0, -1, -1);
        h.sight(5, 5, 5);
        Check.row("one again, where ways began", ways(h, 2), 0, -1, -1);
    }

    private static void clearedThen() {
        BalloonHouse h = new BalloonHouse();
        h.wind(2, 0, 5, 1, 1, 0);
        h.sight(5, 5, 5);
        h.sight(6, 6, 5);
        Check.due("asked for a level first", h.way(0), 2);
        h.clear();
        Check.due("no level then", h.way(0), -1);
        Check.due("no way then", h.ways(), 0);
        h.sight(5, 5, 5);
        h.sight(6, 5, 5);
        Check.row("others", ways(h, 2), 5, 1, -1);
        Check.due("refused", h.sight(6, 6, 5), -2);
        Check.row("as they were", ways(h, 2), 5, 1, -1);
        h.sight(7, 23, 23);
        Check.row("none any more", ways(h, 2), 0, -1, -1);
    }

    private static void oneHour() {
        BalloonHouse h = new BalloonHouse();
        for (int level = 1; level <= 6; level++) {
            h.wind(level, 0, 10, 1, level - 3, 3 - level);
        }
        for (int level = 1; level <= 6; level++) {
            h.clear();
            h.sight(10, 5, 5);
            h.sight(11, 5 + level - 3, 5 + 3 - level);
            Check.row("level " + level, ways(h, 2), 1, level, -1);
        }
        h.clear();
        h.sight(10, 5, 5);
        h.sight(11, 5 + 4, 5);
        Check.row("too far for an hour", ways(h, 1), 0, -1);
    }

    private static void levelsByOneAtMost() {
        for (int from = 1; from <= 6; from++) {
            for (int to = 1; to <= 6; to++) {
                BalloonHouse h = new BalloonHouse();
                h.wind(from, 0, 0, 1, 1, 0);
                h.wind(to, 0, 1, 1, 0, 1);
                h.sight(0, 5, 5);
                h.sight(2, 6, 6);
                boolean may = Math.abs(from - to) <= 1;
                Check.row(from + " and then " + to, ways(h, 2), may ? 1 : 0, may ? from : -1, may ? to : -1);
            }
        }
    }

    /** The first, level by level: a lower first level counts more than all that comes behind. */
    private static void theFirstWay() {
        BalloonHouse h = new BalloonHouse();
        h.sight(0, 5, 5);
        h.sight(4, 5, 5);
        Check.row("all are good", ways(h, 5), 122, 1, 1, 1, 1, -1);
        // Level 1 leads away in the last hour, 1 and 2 do in the one ahead of it.
        h.wind(1, 0, 3, 1, 3, 3);
        Check.due("then 2 at the end", h.way(3), 2);
        h.wind(1, 0, 2, 1, 3, 3);
        h.wind(2, 0, 2, 1, 3, 3);
        Check.row("1, 2, 3, 2", ways(h, 5)[0] > 0 ? new int[] {h.way(0), h.way(1), h.way(2), h.way(3)} : new int[4],
            1, 2, 3, 2);
        h.wind(3, 0, 2, 1, 3, 3);
        Check.row("2, 3, 4, 3", new int[] {h.way(0), h.way(1), h.way(2), h.way(3)}, 2, 3, 4, 3);
        h.wind(3, 0, 1, 1, 3, 3);
        Check.row("3, 4, 4, 3", new int[] {h.way(0), h.way(1), h.way(2), h.way(3)}, 3, 4, 4, 3);
        h.wind(3, 0, 0, 1, 3, 3);
        Check.row("4, 4, 4, 3", new int[] {h.way(0), h.way(1), h.way(2), h.way(3)}, 4, 4, 4, 3);
        h.wind(6, 0, 3, 1, 1, 0);
        h.clear();
        h.sight(0, 5, 5);
        h.sight(4, 6, 5);
        Check.row("up to 6", new int[] {h.way(0), h.way(1), h.way(2), h.way(3)}, 4, 4, 5, 6);
    }

    /** A level that is good by itself is not the next one if it is not by one from the one ahead. */
    private static void firstWaysByOne() {
        for (int only = 1; only <= 6; only++) {
            BalloonHouse h = new BalloonHouse();
            h.wind(only, 0, 0, 1, 1, 0);
            h.sight(0, 5, 5);
            h.sight(3, 6, 5);
            int next = Math.max(1, only - 1);
            Check.row("from " + only, new int[] {h.way(0), h.way(1), h.way(2), h.way(3)},
                only, next, Math.max(1, next - 1), -1);
        }
    }

    /** 2, 3 and 3, 2 meet in one square, from where 1 leads on as well: but not behind a 3. */
    private static void waysThatMeet() {
        BalloonHouse h = new BalloonHouse();
        for (int level = 1; level <= 6; level++) {
            h.wind(level, 0, 0, 1, 3, 3);
            h.wind(level, 0, 1, 1, -3, -3);
        }
        h.wind(2, 0, 0, 2, 1, 0);
        h.wind(3, 0, 0, 2, 0, 1);
        h.sight(0, 5, 5);
        h.sight(3, 6, 6);
        Check.row("2, 3, 2", ways(h, 4), 6, 2, 3, 2, -1);
        // One level behind another leads away in the last hour: just 1, behind 3 and 2, is left in the end.
        h.wind(2, 0, 2, 1, 3, 3);
        Check.row("2, 3, 3", ways(h, 4), 4, 2, 3, 3, -1);
        h.wind(3, 0, 2, 1, 3, 3);
        Check.row("2, 3, 4", ways(h, 4), 2, 2, 3, 4, -1);
        h.wind(4, 0, 2, 1, 3, 3);
        Check.row("then 3, 2, 1", ways(h, 4), 1, 3, 2, 1, -1);
    }

    /** Level 1 leads from 11 to 12 in one area and stays at 12 in the other: both ways count there. */
    private static void waysThatMeetAtOneLevel() {
        BalloonHouse h = new BalloonHouse();
        h.wind(1, 0, 0, 2, 1, 0);
        h.sight(0, 11, 5);
        h.sight(3, 12, 5);
        // 1 first: 11., 12. and 2, 3 for the last; 2 first: 21 and 1, 2.
        Check.row("five and two", ways(h, 4), 7, 1, 1, 1, -1);
        BalloonHouse along = new BalloonHouse();
        along.wind(1, 0, 0, 2, 0, 1);
        along.sight(0, 5, 11);
        along.sight(3, 5, 12);
        Check.row("likewise along y", ways(along, 4), 7, 1, 1, 1, -1);
    }

    /** Nothing of ways that were counted ahead is left when others are. */
    private static void waysAfterOthers() {
        BalloonHouse h = new BalloonHouse();
        h.wind(3, 0, 0, 1, 1, 0);
        h.sight(1, 11, 5);
        h.sight(3, 11, 5);
        Check.due("at 11", h.ways(), 16);
        h.clear();
        h.sight(0, 12, 5);
        h.sight(2, 12, 5);
        Check.due("at 12", h.ways(), 16);
        h.clear();
        h.sight(0, 11, 5);
        h.sight(2, 12, 5);
        Check.row("from 11 to 12", ways(h, 3), 3, 3, 2, -1);
    }

    private static void beyondTheField() {
        for (int[] w : new int[][] {{0, 5, -1, 0}, {23, 5, 1, 0}, {5, 0, 0, -1}, {5, 23, 0, 1}}) {
            BalloonHouse h = new BalloonHouse();
            for (int area = 0; area < 4; area++) {
                for (int level = 1; level <= 6; level++) {
                    h.wind(level, area, 0, 1, w[2], w[3]);
                    h.wind(level, area, 1, 1, -w[2], -w[3]);
                }
            }
            h.sight(0, w[0], w[1]);
            h.sight(2, w[0], w[1]);
            Check.row("out and in again", ways(h, 1), 0, -1);
            h.clear();
            h.sight(0, w[0] - w[2], w[1] - w[3]);
            h.sight(2, w[0] - w[2], w[1] - w[3]);
            Check.row("to the side and back", ways(h, 3), 16, 1, 1, -1);
        }
    }

    private static void sightsOnTheWay() {
        BalloonHouse h = new BalloonHouse();
        h.sight(0, 5, 5);
        h.sight(1, 5, 5);
        h.sight(2, 5, 5);
        Check.due("calm: two hours", h.ways(), 16);
        h.wind(1, 0, 0, 1, 1, 0);
        h.wind(1, 0, 1, 1, -1, 0);
        Check.due("without level 1 in either hour", h.ways(), 13);
        h.clear();
        h.sight(0, 5, 5);
        h.sight(2, 5, 5);
        Check.due("without the sight between them, 1 and 1 too", h.ways(), 14);
        h.clear();
        h.sight(0, 5, 5);
        h.sight(1, 6, 5);
        h.sight(2, 5, 5);
        Check.row("by the sight between them", ways(h, 3), 1, 1, 1, -1);
        h.clear();
        h.sight(0, 5, 5);
        h.sight(1, 4, 5);
        h.sight(2, 5, 5);
        Check.due("by another", h.ways(), 0);
        for (int[] w : new int[][] {{1, 0}, {-1, 0}, {0, 1}, {0, -1}, {2, 1}, {-1, -2}}) {
            sightBars(w[0], w[1]);
        }
    }

    /** Level 3 leads to another square and back: a sight between leaves that way alone, or bars it. */
    private static void sightBars(int x, int y) {
        for (boolean there : new boolean[] {true, false}) {
            BalloonHouse h = new BalloonHouse();
            h.wind(3, 0, 50, 1, x, y);
            h.wind(3, 0, 51, 1, 0, 0);
            h.wind(3, 0, 52, 1, -x, -y);
            h.sight(50, 5, 5);
            h.sight(51, there ? 5 + x : 5, there ? 5 + y : 5);
            h.sight(53, 5, 5);
            // There: 3, then 2, 3 or 4, then 3. Else all of 44 rows that have no 3 at their ends.
            Check.due("by " + x + ", " + y, h.ways(), there ? 3 : rowsWithout3());
        }
    }

    private static int rowsWithout3() {
        int rows = 0;
        for (int a = 1; a <= 6; a++) {
            for (int b = 1; b <= 6; b++) {
                for (int c = 1; c <= 6; c++) {
                    rows += a != 3 && c != 3 && Math.abs(a - b) <= 1 && Math.abs(b - c) <= 1 ? 1 : 0;
                }
            }
        }
        return rows;
    }

    /** In a calm: 6, 16, 44, .. rows of levels; behind 1,000,000,000 no more are told. */
    private static void waysToTheLimit() {
        long[] rows = {1, 1, 1, 1, 1, 1};
        for (int length = 1; length <= 40; length++) {
            long all = 0;
            for (long r : rows) {
                all += r;
            }
            BalloonHouse h = new BalloonHouse();
            h.sight(0, 5, 5);
            h.sight(length, 5, 5);
            Check.due("rows of " + length, h.ways(), (int) Math.min(all, 1000000000L));
            Check.row("its levels end", new int[] {h.way(0), h.way(length - 1), h.way(length)}, 1, 1, -1);
            long[] next = new long[6];
            for (int i = 0; i < 6; i++) {
                long sum = rows[i] + (i > 0 ? rows[i - 1] : 0) + (i < 5 ? rows[i + 1] : 0);
                next[i] = Math.min(sum, 4000000000L);
            }
            rows = next;
        }
    }

    private static void waysAlongTheSides() {
        for (int[] at : new int[][] {{0, 0}, {23, 0}, {0, 23}, {23, 23}, {11, 11}, {12, 12}}) {
            BalloonHouse h = new BalloonHouse();
            h.sight(7, at[0], at[1]);
            h.sight(9, at[0], at[1]);
            Check.row("calm at " + at[0] + ", " + at[1], ways(h, 3), 16, 1, 1, -1);
        }
        // From corner to corner by 3 and 3: 7 hours to 21, 21, and one by 2 and 2.
        BalloonHouse far = new BalloonHouse();
        for (int area = 0; area < 4; area++) {
            far.wind(4, area, 0, 7, 3, 3);
            far.wind(4, area, 7, 1, 2, 2);
        }
        far.sight(0, 0, 0);
        far.sight(8, 23, 23);
        Check.row("across the field", ways(far, 9), 1, 4, 4, 4, 4, 4, 4, 4, 4, -1);
        BalloonHouse back = new BalloonHouse();
        for (int area = 0; area < 4; area++) {
            back.wind(4, area, 0, 7, -3, -3);
            back.wind(4, area, 7, 1, -2, -2);
        }
        back.sight(0, 23, 23);
        back.sight(8, 0, 0);
        Check.row("and back", ways(back, 9), 1, 4, 4, 4, 4, 4, 4, 4, 4, -1);
    }

    private static void lastHours() {
        BalloonHouse h = new BalloonHouse();
        h.wind(5, 0, 998, 1, 1, 0);
        h.wind(5, 0, 999, 1, 3, 3);
        h.sight(959, 5, 5);
        h.sight(998, 5, 5);
        h.sight(999, 6, 5);
        Check.due("up to the last hour", h.ways(), 1000000000);
        Check.row("its last levels", new int[] {h.way(36), h.way(37), h.way(38), h.way(39), h.way(40)}, 2, 3, 4, 5, -1);
    }

    private static int[] leaks(BalloonHouse h) {
        return new int[] {h.leaks(0), h.leaks(1), h.leaks(2)};
    }

    private static int[] leaks(int... amountsAndErrors) {
        BalloonHouse h = new BalloonHouse();
        for (int i = 0; i + 1 < amountsAndErrors.length; i += 2) {
            h.log(amountsAndErrors[i], amountsAndErrors[i + 1]);
        }
        return leaks(h);
    }

    private static void thirtyAmounts() {
        BalloonHouse h = new BalloonHouse();
        for (int i = 1; i <= 30; i++) {
            Check.due("amount", h.log(1000 - i, 0), i);
            Check.due("counted", h.count(6), i);
        }
        Check.due("a 31st", h.log(969, 0), -1);
        Check.due("30", h.count(6), 30);
        // 999 less one each hour: 1 thousandth of 999 and less is 0, and 1.
        Check.row("all thirty count", leaks(h), 1, 1, 1);
        Check.due("gone", h.unlog(), 30);
        Check.due("none", h.unlog(), 0);
        Check.due("none", h.count(6), 0);
        Check.row("none", leaks(h), 0, -1, -1);
        Check.due("anew", h.log(5, 5), 1);
        BalloonHouse last = new BalloonHouse();
        for (int i = 1; i <= 29; i++) {
            last.log(1000, 0);
        }
        Check.row("no leak", leaks(last), 1, 0, 0);
        last.log(999, 0);
        Check.row("the thirtieth bars it", leaks(last), 0, -1, -1);
    }

    private static void noLog() {
        Check.row("no log", leaks(), 0, -1, -1);
        Check.row("one amount", leaks(100, 0), 101, 0, 100);
        Check.row("none of gas", leaks(0, 0), 101, 0, 100);
        Check.row("none fits", leaks(100, 0, 101, 0), 0, -1, -1);
    }

    private static void leaksAtTheirEnds() {
        Check.row("none at all", leaks(1000, 0, 1000, 0), 1, 0, 0);
        Check.row("the least", leaks(1000, 0, 998, 0), 1, 1, 1);
        Check.row("between none and the least", leaks(1000, 0, 999, 0), 0, -1, -1);
        Check.row("the greatest", leaks(1000, 0, 899, 0), 1, 100, 100);
        Check.row("the greatest but one", leaks(1000, 0, 900, 0), 1, 99, 99);
        Check.row("beyond", leaks(1000, 0, 898, 0), 0, -1, -1);
        Check.row("from none to the greatest", leaks(1000, 0, 950, 51), 101, 0, 100);
        Check.row("but for none", leaks(1000, 0, 949, 50), 100, 1, 100);
        Check.row("but for the greatest", leaks(1000, 0, 950, 50), 100, 0, 99);
        // 999 loses the same whole thousandths and 1: 0 with a leak of 1
        Check.row("cut", leaks(999, 0, 998, 0), 1, 1, 1);
        Check.row("cut, twice", leaks(1999, 0, 1997, 0), 1, 1, 1);
    }

    private static void errorsAtTheirEnds() {
        Check.row("at the lower end", leaks(1000, 0, 1005, 5), 1, 0, 0);
        Check.row("beyond it", leaks(1000, 0, 1006, 5), 0, -1, -1);
        Check.row("at the upper end", leaks(1000, 0, 894, 5), 1, 100, 100);
        Check.row("beyond it", leaks(1000, 0, 893, 5), 0, -1, -1);
        Check.row("the greatest error", leaks(1000, 0, 500, 500), 101, 0, 100);
        Check.row("the greatest error, at its end", leaks(1000, 0, 1500, 500), 1, 0, 0);
        Check.row("and beyond", leaks(1000, 0, 1501, 500), 0, -1, -1);
        Check.row("the first one's: its least", leaks(1000, 500, 500, 0, 500, 0), 1, 0, 0);
        Check.row("below its least", leaks(1000, 500, 499, 0, 499, 0), 0, -1, -1);
        Check.row("its greatest", leaks(1000, 500, 1500, 0, 1500, 0), 1, 0, 0);
        Check.row("above its greatest", leaks(1000, 500, 1501, 0, 1501, 0), 0, -1, -1);
    }

    private static void amountsAtTheirEnds() {
        Check.row("the greatest amount", leaks(10000, 0, 8999, 0), 1, 100, 100);
        Check.row("the greatest amount, no leak", leaks(10000, 0, 10000, 0), 1, 0, 0);
        // From 10,500: 1,050 and 1 are gone, then 944 and 1.
        Check.row("from 10,500", leaks(10000, 500, 9449, 0, 8504, 0), 1, 100, 100);
        // From 10,500: with 48 to 9,995 and 9,515; with 49 to 9,985 and 9,495, which is beyond the error.
        Check.row("from 10,500, with errors", leaks(10000, 500, 10000, 500, 10000, 500), 49, 0, 48);
    }

    private static void downToNothing() {
        Check.row("none stays none", leaks(0, 0, 0, 0), 101, 0, 100);
        Check.row("none becomes no more", leaks(0, 0, 1, 0), 0, -1, -1);
        Check.row("one goes with each leak", leaks(1, 0, 0, 0), 100, 1, 100);
        Check.row("one stays without", leaks(1, 0, 1, 0), 1, 0, 0);
        Check.row("0 at least", leaks(3, 5, 0, 0, 0, 0), 101, 0, 100);
        Check.row("two go in two hours", leaks(2, 0, 1, 0, 0, 0, 0, 0), 100, 1, 100);
        Check.row("not in one", leaks(2, 0, 0, 0), 0, -1, -1);
    }

    /** It is one amount that must fit all, not one for each. */
    private static void oneAndTheSameAmount() {
        Check.row("100 and 101, but neither for both", leaks(100, 1, 101, 0, 99, 0, 99, 0), 0, -1, -1);
        Check.row("with any leak 101 would be 100, and 99", leaks(100, 1, 101, 1, 101, 1), 1, 0, 0);
        Check.row("or is, with one hour less", leaks(100, 1, 101, 1), 10, 0, 9);
    }
}
