/** Promises 7 to 10: balloon, cylinder, fillable, fill. */
public final class FillTest {
    public static void main(String[] args) {
        balloons();
        cylinders();
        fillable();
        cutPurity();
        firstOfOnePrice();
        fill();
        Check.end();
    }

    private static void balloons() {
        BalloonHouse h = new BalloonHouse();
        Check.illegal("volume 99", () -> h.balloon(99, 10));
        Check.illegal("volume 5,001", () -> h.balloon(5001, 10));
        Check.illegal("net 9", () -> h.balloon(100, 9));
        Check.illegal("net 1,001", () -> h.balloon(100, 1001));
        Check.due("none was made", h.count(1), 0);
        Check.due("least", h.balloon(100, 10), 0);
        Check.due("greatest", h.balloon(5000, 1000), 1);
        Check.row("new", Check.of(h, 1, 0, 1, 2, 3, 4, 5, 6, 7, 8, 9, 10), 0, -1, -1, 0, 0, 0, 0, 1000, 0, 0, 0);
        for (int i = 2; i < 6; i++) {
            Check.due("number", h.balloon(100, 10), i);
        }
        Check.wrongState("a seventh", () -> h.balloon(100, 10));
        Check.illegal("a wrong seventh", () -> h.balloon(99, 10));
        Check.due("six", h.count(1), 6);
    }

    private static void cylinders() {
        BalloonHouse h = new BalloonHouse();
        h.balloon(5000, 10);
        int[][] wrong = {{0, 1, 0}, {1001, 1, 0}, {1, 0, 0}, {1, 101, 0}, {1, 1, -1}, {1, 1, 1001}};
        for (int[] w : wrong) {
            Check.illegal("cylinder", () -> h.cylinder(w[0], w[1], w[2]));
        }
        Check.due("least", h.cylinder(1, 1, 0), 0);
        Check.due("greatest", h.cylinder(1000, 100, 1000), 1);
        for (int i = 2; i < 10; i++) {
            Check.due("number", h.cylinder(100, 50, 10), i);
        }
        Check.due("an eleventh", h.cylinder(100, 50, 10), -1);
        Check.illegal("a wrong eleventh", () -> h.cylinder(0, 50, 10));
        Check.due("ten", h.count(2), 10);
        Check.due("filled", h.fill(0, 200, 50), 20);
        Check.due("two are gone", h.count(2), 8);
        Check.due("still there were ten", h.cylinder(100, 50, 10), -1);
    }

    private static void fillable() {
        BalloonHouse h = new BalloonHouse();
        h.cylinder(600, 90, 50);
        h.cylinder(500, 80, 30);
        h.cylinder(400, 100, 70);
        for (int[] w : new int[][] {{0, 1, 0}, {10001, 1, 0}, {1, 0, 0}, {1, 101, 0}, {1, 1, -1}, {1, 1, 4}}) {
            Check.illegal("fillable", () -> h.fillable(w[0], w[1], w[2]));
        }
        Check.row("one is enough", all(h, 500, 80), 30, 2, 500, 80);
        Check.row("more than that", all(h, 501, 80), 50, 1, 600, 90);
        // 600 * 90 + 500 * 80 = 94,000 by 1,100 is 85.45
        Check.row("purity is cut", all(h, 900, 85), 80, 3, 1100, 85);
        Check.row("a better purity", all(h, 900, 86), 100, 6, 900, 88);
        Check.row("all of them", all(h, 1500, 1), 150, 7, 1500, 89);
        Check.row("too much", all(h, 1501, 1), -1, -1, -1, -1);
        Check.row("much too much", all(h, 10000, 100), -1, -1, -1, -1);
        Check.row("too pure", all(h, 401, 100), -1, -1, -1, -1);
        Check.due("nothing is gone", h.count(2), 3);
    }

    private static void cutPurity() {
        BalloonHouse h = new BalloonHouse();
        h.cylinder(1, 49, 3);
        Check.row("the least amount", all(h, 1, 49), 3, 1, 1, 49);
        h.cylinder(2, 50, 4);
        // 149 by 3 is 49.67
        Check.row("cut, just below", all(h, 3, 50), -1, -1, -1, -1);
        Check.row("cut", all(h, 3, 49), 7, 3, 3, 49);
    }

    private static int[] all(BalloonHouse h, int amount, int purity) {
        int[] got = new int[4];
        for (int what = 0; what < 4; what++) {
            got[what] = h.fillable(amount, purity, what);
        }
        return got;
    }

    /** Of one price the set with the least cylinder that is not in both. */
    private static void firstOfOnePrice() {
        BalloonHouse h = new BalloonHouse();
        h.cylinder(100, 50, 10);
        h.cylinder(200, 50, 20);
        h.cylinder(100, 50, 10);
        h.cylinder(100, 50, 0);
        Check.due("0 and 2 ahead of 1", h.fillable(200, 50, 0), 10);
        Check.due("with the free one", h.fillable(200, 50, 1), 1 | 8);
        Check.due("the free one, with nothing else", h.fillable(100, 50, 1), 8);
        Check.due("0, 1 and 3 ahead of 1, 2 and 3", h.fillable(350, 50, 1), 1 | 2 | 8);
        BalloonHouse free = new BalloonHouse();
        free.cylinder(100, 50, 5);
        free.cylinder(100, 50, 0);
        free.cylinder(100, 50, 0);
        Check.due("a set ahead of its part", free.fillable(100, 50, 1), 6);
        Check.due("all of that set", free.fillable(100, 50, 2), 200);
    }

    private static void fill() {
        BalloonHouse h = new BalloonHouse();
        h.balloon(450, 10);
        h.cylinder(400, 90, 7);
        h.cylinder(500, 80, 5);
        h.cylinder(300, 70, 9);
        Check.noBalloon("none such", () -> h.fill(1, 100, 50));
        Check.noBalloon("none such, wrong", () -> h.fill(-1, 0, 50));
        Check.illegal("amount", () -> h.fill(0, 0, 50));
        Check.illegal("amount 10,001", () -> h.fill(0, 10001, 50));
        Check.illegal("purity", () -> h.fill(0, 100, 0));
        Check.illegal("purity 101", () -> h.fill(0, 100, 101));
        Check.due("none such fill", h.fill(0, 1201, 1), -2);
        Check.due("price", h.fill(0, 401, 80), 5);
        Check.row("volume at most", Check.of(h, 0, 4, 5), 450, 80);
        Check.due("it is gone", h.fillable(401, 1, 1), 5);
        Check.due("filled anew", h.fill(0, 400, 85), 7);
        Check.row("what was in it is gone", Check.of(h, 0, 4, 5), 400, 90);
        Check.due("one is left", h.count(2), 1);
        h.start(0, 0, 0);
        Check.due("flying", h.fill(0, 100, 50), -1);
        Check.due("flying, none such", h.fill(0, 9000, 50), -1);
        Check.due("one is still left", h.count(2), 1);
        h.act(0, 2, 400);
        h.hours(1);
        Check.due("landed", h.of(0, 0), 2);
        Check.due("landed, not at home", h.fill(0, 100, 50), -1);
        h.home(0);
        Check.due("at home", h.fill(0, 100, 50), 9);
    }
}
