/** Promises 28 to 30: log, unlog, leaks. */
public final class LogTest {
    public static void main(String[] args) {
        logs();
        withoutLog();
        leaks();
        firstAmounts();
        downToNothing();
        Check.end();
    }

    private static int[] leaks(BalloonHouse h) {
        return new int[] {h.leaks(0), h.leaks(1), h.leaks(2)};
    }

    private static BalloonHouse logged(int... amountsAndErrors) {
        BalloonHouse h = new BalloonHouse();
        for (int i = 0; i + 1 < amountsAndErrors.length; i += 2) {
            h.log(amountsAndErrors[i], amountsAndErrors[i + 1]);
        }
        return h;
    }

    private static void logs() {
        BalloonHouse h = new BalloonHouse();
        for (int[] w : new int[][] {{-1, 0}, {10001, 0}, {0, -1}, {0, 501}}) {
            Check.illegal("log", () -> h.log(w[0], w[1]));
        }
        Check.due("none was taken", h.count(6), 0);
        Check.due("least", h.log(0, 0), 1);
        Check.due("greatest", h.log(10000, 500), 2);
        for (int i = 3; i <= 30; i++) {
            Check.due("log", h.log(5, 5), i);
        }
        Check.due("one more", h.log(5, 5), -1);
        Check.illegal("a wrong one more", () -> h.log(5, 501));
        Check.due("counted", h.count(6), 30);
        Check.due("unlogged", h.unlog(), 30);
        Check.due("none", h.unlog(), 0);
        Check.due("anew", h.log(5, 5), 1);
    }

    private static void withoutLog() {
        BalloonHouse h = new BalloonHouse();
        Check.row("no log", leaks(h), 0, -1, -1);
        Check.illegal("what -1", () -> h.leaks(-1));
        Check.illegal("what 3", () -> h.leaks(3));
        h.log(100, 0);
        Check.row("one amount: all fit", leaks(h), 101, 0, 100);
        h.log(200, 5);
        Check.row("it never becomes more", leaks(h), 0, -1, -1);
        h.unlog();
        Check.row("unlogged", leaks(h), 0, -1, -1);
        Check.illegal("what 3, still", () -> h.leaks(3));
    }

    private static void leaks() {
        Check.row("as it was", leaks(logged(100, 0, 100, 0, 100, 0)), 1, 0, 0);
        Check.row("one less: 1 to 9 thousandths", leaks(logged(100, 0, 99, 0)), 9, 1, 9);
        // 100 to 94 with 50 to 59, 95 with 40 to 49, 93 with 60 to 69
        Check.row("with errors", leaks(logged(100, 0, 94, 1, 88, 1)), 15, 50, 64);
        Check.row("one hour", leaks(logged(100, 0, 94, 0)), 10, 50, 59);
        Check.row("one hour, error 1", leaks(logged(100, 0, 94, 1)), 30, 40, 69);
        Check.row("the most", leaks(logged(1000, 0, 899, 0)), 1, 100, 100);
        Check.row("more than the most", leaks(logged(1000, 0, 898, 0)), 0, -1, -1);
        Check.row("10,000", leaks(logged(10000, 0, 9499, 0)), 1, 50, 50);
    }

    /** From any amount within the first one's error, and from one and the same to the end. */
    private static void firstAmounts() {
        Check.row("from 105", leaks(logged(100, 5, 105, 0, 105, 0)), 1, 0, 0);
        Check.row("from 106: too much", leaks(logged(100, 5, 106, 0)), 0, -1, -1);
        Check.row("from 95", leaks(logged(100, 5, 95, 0, 95, 0)), 1, 0, 0);
        // 86 to 95 lead from 105 to 95, but just 86 from 115 to 105, and more would have to come from above 115.
        Check.row("from 115 alone", leaks(logged(110, 5, 105, 0, 95, 0)), 1, 86, 86);
        // 10,417 less 416 and 1, then less 400 and 1
        Check.row("above 10,000", leaks(logged(10000, 500, 10000, 0, 9599, 0)), 1, 40, 40);
        Check.row("0 at least", leaks(logged(10, 500, 0, 0, 0, 0)), 101, 0, 100);
    }

    private static void downToNothing() {
        Check.row("nothing stays nothing", leaks(logged(0, 0, 0, 0, 0, 0)), 101, 0, 100);
        Check.row("the last one goes", leaks(logged(1, 0, 0, 0, 0, 0)), 100, 1, 100);
        Check.row("and is not below 0", leaks(logged(3, 0, 2, 0, 1, 0, 0, 0, 0, 0)), 100, 1, 100);
    }
}
