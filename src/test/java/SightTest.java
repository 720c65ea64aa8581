/** Promises 24 to 27: sight, clear, ways, way. */
public final class SightTest {
    public static void main(String[] args) {
        sights();
        fewWays();
        sightsBetween();
        levelsByOne();
        areasAndEdges();
        manyWays();
        windsChange();
        Check.end();
    }

    private static void sights() {
        BalloonHouse h = new BalloonHouse();
        for (int[] w : new int[][] {{-1, 0, 0}, {1000, 0, 0}, {0, -1, 0}, {0, 24, 0}, {0, 0, -1}, {0, 0, 24}}) {
            Check.illegal("sight", () -> h.sight(w[0], w[1], w[2]));
        }
        Check.due("none was taken", h.count(5), 0);
        Check.due("first", h.sight(10, 23, 23), 1);
        Check.due("the same hour", h.sight(10, 0, 0), -2);
        Check.due("ahead", h.sight(9, 0, 0), -2);
        Check.due("41 behind", h.sight(51, 0, 0), -2);
        for (int i = 1; i <= 10; i++) {
            Check.due("one more", h.sight(10 + i, 0, 0), 1 + i);
        }
        Check.due("40 behind", h.sight(50, 0, 0), 12);
        Check.due("a thirteenth", h.sight(51, 0, 0), -1);
        Check.due("a thirteenth, ahead", h.sight(0, 0, 0), -1);
        Check.illegal("a wrong thirteenth", () -> h.sight(1000, 0, 0));
        Check.due("twelve", h.clear(), 12);
        Check.due("none", h.clear(), 0);
        Check.due("counted", h.count(5), 0);
        Check.due("anew, at the last hour", h.sight(999, 0, 0), 1);
        Check.due("none behind it", h.sight(999, 1, 0), -2);
    }

    private static int[] ways(BalloonHouse h, int levels) {
        int[] got = new int[levels + 1];
        got[0] = h.ways();
        for (int k = 0; k < levels; k++) {
            got[k + 1] = h.way(k);
        }
        return got;
    }

    private static void fewWays() {
        BalloonHouse h = new BalloonHouse();
        h.wind(1, 0, 0, 20, 1, 0);
        h.wind(2, 0, 0, 20, 0, 1);
        Check.row("no sights", ways(h, 1), 0, -1);
        h.sight(0, 2, 2);
        Check.row("one sight", ways(h, 1), 0, -1);
        h.sight(2, 3, 3);
        Check.row("1, 2 and 2, 1", ways(h, 3), 2, 1, 2, -1);
        Check.due("k below 0", h.way(-1), -1);
        Check.due("k far below 0", h.way(Integer.MIN_VALUE), -1);
        Check.due("k far above", h.way(Integer.MAX_VALUE), -1);
        h.sight(3, 9, 9);
        Check.row("too far", ways(h, 2), 0, -1, -1);
        h.clear();
        Check.row("cleared", ways(h, 1), 0, -1);
    }

    /** A sight between two others bars ways that the two alone leave open. */
    private static void sightsBetween() {
        BalloonHouse h = new BalloonHouse();
        h.wind(1, 0, 5, 4, 1, 0);
        h.wind(2, 0, 5, 4, 0, 1);
        h.sight(5, 2, 2);
        h.sight(9, 4, 4);
        Check.row("six rows of 1 and 2, two each", ways(h, 5), 6, 1, 1, 2, 2, -1);
        h.clear();
        h.sight(5, 2, 2);
        h.sight(6, 2, 3);
        h.sight(9, 4, 4);
        Check.row("2 first", ways(h, 5), 3, 2, 1, 1, 2, -1);
        h.clear();
        h.sight(5, 2, 2);
        h.sight(6, 2, 3);
        h.sight(8, 4, 3);
        h.sight(9, 4, 4);
        Check.row("just one", ways(h, 5), 1, 2, 1, 1, 2, -1);
    }

    private static void levelsByOne() {
        BalloonHouse h = new BalloonHouse();
        h.wind(1, 0, 0, 1, 1, 0);
        h.wind(3, 0, 1, 1, 0, 1);
        h.sight(0, 2, 2);
        h.sight(2, 3, 3);
        Check.row("1 and then 3: not by one", ways(h, 1), 0, -1);
        h.wind(4, 0, 0, 1, 1, 0);
        Check.row("4 and then 3", ways(h, 2), 1, 4, 3);
        BalloonHouse calm = new BalloonHouse();
        calm.sight(0, 5, 5);
        calm.sight(1, 5, 5);
        Check.row("any level", ways(calm, 2), 6, 1, -1);
        BalloonHouse last = new BalloonHouse();
        last.sight(998, 23, 23);
        last.sight(999, 23, 23);
        Check.row("in the last square, up to the last hour", ways(last, 2), 6, 1, -1);
        calm.sight(2, 5, 5);
        Check.row("2 at the ends, 3 between", ways(calm, 3), 16, 1, 1, -1);
    }

    private static void areasAndEdges() {
        BalloonHouse h = new BalloonHouse();
        h.wind(1, 0, 0, 20, 3, 0);
        h.wind(1, 1, 0, 20, 0, 3);
        h.wind(1, 3, 0, 20, 0, -1);
        for (int level = 2; level <= 6; level++) {
            for (int area = 0; area < 4; area++) {
                h.wind(level, area, 0, 20, -3, -3);
            }
        }
        h.sight(0, 10, 8);
        h.sight(4, 13, 13);
        Check.row("by the area where it is", ways(h, 4), 1, 1, 1, 1, 1);
        for (int corner : new int[] {0, 23}) {
            int in = corner == 0 ? 1 : -1;
            BalloonHouse along = new BalloonHouse();
            for (int area = 0; area < 4; area++) {
                along.wind(1, area, 0, 2, -3 * in, -3 * in);
                along.wind(1, area, 2, 9, 3 * in, 3 * in);
                along.wind(2, area, 0, 9, -3 * in, -3 * in);
            }
            along.sight(0, corner + 6 * in, corner + 6 * in);
            along.sight(3, corner + 3 * in, corner + 3 * in);
            // By the corner: 1 or 2 twice, then 1. Else calm levels round one hour at 2: 233, 234, 323, 332, 432.
            Check.row("by the corner", ways(along, 4), 9, 1, 1, 1, -1);
        }
        BalloonHouse edge = new BalloonHouse();
        for (int level = 1; level <= 6; level++) {
            edge.wind(level, 0, 0, 1, -1, 0);
            edge.wind(level, 0, 1, 1, 1, 0);
        }
        edge.sight(0, 0, 0);
        edge.sight(2, 0, 0);
        Check.due("never beyond the field", edge.ways(), 0);
    }

    private static void manyWays() {
        BalloonHouse h = new BalloonHouse();
        h.sight(100, 5, 5);
        h.sight(140, 5, 5);
        Check.due("no more than", h.ways(), 1000000000);
        Check.due("the last level", h.way(39), 1);
        Check.due("none behind", h.way(40), -1);
        // Rows of a length, each by one from the one ahead: 6, 16, 44, 122, ..
        long[] rows = {1, 1, 1, 1, 1, 1};
        for (int length = 1; length <= 24; length++) {
            h.clear();
            h.sight(100, 5, 5);
            h.sight(100 + length, 5, 5);
            long all = 0;
            for (long r : rows) {
                all += r;
            }
            Check.due("rows of " + length, h.ways(), (int) Math.min(all, 1000000000L));
            long[] next = new long[6];
            for (int i = 0; i < 6; i++) {
                next[i] = rows[i] + (i > 0 ? rows[i - 1] : 0) + (i < 5 ? rows[i + 1] : 0);
            }
            rows = next;
        }
    }

    private static BalloonHouse fresh() {
        BalloonHouse h = new BalloonHouse();
        h.sight(0, 0, 0);
        h.sight(1, 0, 0);
        return h;
    }

    /** What was answered is not kept when a wind or a sight changes. */
    private static void windsChange() {
        BalloonHouse h = new BalloonHouse();
        h.sight(3, 5, 5);
        h.sight(4, 6, 5);
        Check.row("no wind", ways(h, 1), 0, -1);
        h.wind(5, 0, 3, 1, 1, 0);
        Check.row("wind", ways(h, 1), 1, 5);
        h.wind(2, 0, 3, 1, 1, 0);
        Check.row("more wind", ways(h, 1), 2, 2);
        Check.due("asked for a level first", fresh().way(0), 1);
        h.hours(10);
        Check.row("hours don't change it", ways(h, 1), 2, 2);
        h.forecast(3, 0, 3, 1, 1, 0);
        Check.row("forecasts neither", ways(h, 1), 2, 2);
        h.sight(5, 6, 5);
        Check.due("one more sight", h.ways(), 6);
    }
}
