/** Edges of balloons, cylinders, fills, sets, inspections, starts and ways home (promises 7 to 14 and 20). */
public final class EdgeBalloonTest {
    public static void main(String[] args) {
        sixBalloons();
        tenCylinders();
        tenCylindersThatWereThere();
        amountsOfFills();
        purityOfFills();
        pricesOfFills();
        theFirstOfOnePrice();
        volumeAtMost();
        fillsUsedUp();
        bagsAndLoad();
        leaksSetInEachState();
        inspectedInEachState();
        ninetyNineHours();
        liftAtTheStart();
        startsAtTheEnd();
        homeFromEachState();
        squareAtHome();
        Check.end();
    }

    private static void sixBalloons() {
        BalloonHouse h = new BalloonHouse();
        for (int i = 0; i < 6; i++) {
            Check.due("number", h.balloon(100 + i, 10 + i), i);
            Check.due("how many", h.count(1), i + 1);
        }
        Check.wrongState("a seventh", () -> h.balloon(100, 10));
        Check.wrongState("the greatest seventh", () -> h.balloon(5000, 1000));
        Check.due("six", h.count(1), 6);
        for (int i = 0; i < 6; i++) {
            Check.row("each as it was made", Check.of(h, i, 0, 1, 2, 3, 4, 5, 6, 7, 8, 9, 10),
                0, -1, -1, 0, 0, 0, 0, 10 + i, 0, 0, 0);
            Check.row("without leaks", new int[] {h.set(i, 1, 0), h.set(i, 2, 0)}, 0, 0);
        }
    }

    private static int[] fill(BalloonHouse h, int amount, int purity) {
        int[] got = new int[4];
        for (int what = 0; what < 4; what++) {
            got[what] = h.fillable(amount, purity, what);
        }
        return got;
    }

    private static final int[] NO_FILL = {-1, -1, -1, -1};

    private static void tenCylinders() {
        BalloonHouse h = new BalloonHouse();
        Check.row("none", fill(h, 1, 1), NO_FILL);
        for (int i = 0; i < 10; i++) {
            Check.due("number", h.cylinder(1000, 100, 1000), i);
        }
        Check.due("no eleventh", h.cylinder(1000, 100, 1000), -1);
        Check.row("all ten", fill(h, 10000, 100), 10000, 1023, 10000, 100);
        Check.row("nine", fill(h, 9000, 100), 9000, 511, 9000, 100);
        Check.row("one more than nine", fill(h, 9001, 100), 10000, 1023, 10000, 100);
        BalloonHouse less = new BalloonHouse();
        for (int i = 0; i < 9; i++) {
            less.cylinder(1000, 100, 0);
        }
        less.cylinder(999, 100, 0);
        Check.row("9,999 are too few for 10,000", fill(less, 10000, 1), NO_FILL);
        Check.row("9,999", fill(less, 9999, 1), 0, 1023, 9999, 100);
        BalloonHouse last = new BalloonHouse();
        for (int i = 0; i < 9; i++) {
            last.cylinder(1, 1, 1000);
        }
        last.cylinder(2, 1, 999);
        Check.row("the tenth alone", fill(last, 1, 1), 999, 512, 2, 1);
    }

    private static void tenCylindersThatWereThere() {
        BalloonHouse h = new BalloonHouse();
        h.balloon(5000, 10);
        for (int i = 0; i < 9; i++) {
            h.cylinder(1, 1, 1);
        }
        h.fill(0, 9, 1);
        Check.due("none is left", h.count(2), 0);
        Check.due("a tenth has its own number", h.cylinder(5, 5, 5), 9);
        Check.row("and bit", fill(h, 1, 1), 5, 512, 5, 5);
        Check.due("there were ten", h.cylinder(1, 1, 1), -1);
        Check.due("filled with it", h.fill(0, 5, 5), 5);
        Check.due("there were ten still", h.cylinder(1, 1, 1), -1);
        Check.row("nothing is left", fill(h, 1, 1), NO_FILL);
        Check.due("no fill", h.fill(0, 1, 1), -2);
    }

    private static void amountsOfFills() {
        BalloonHouse h = new BalloonHouse();
        h.cylinder(1, 1, 0);
        Check.row("just enough of the least", fill(h, 1, 1), 0, 1, 1, 1);
        Check.row("one too few", fill(h, 2, 1), NO_FILL);
        Check.row("not pure enough", fill(h, 1, 2), NO_FILL);
        h.cylinder(300, 50, 5);
        h.cylinder(400, 50, 6);
        Check.row("just 300", fill(h, 300, 50), 5, 2, 300, 50);
        Check.row("one more", fill(h, 301, 50), 6, 4, 400, 50);
        Check.row("just 700", fill(h, 700, 50), 11, 6, 700, 50);
        Check.row("701, purity below", fill(h, 701, 50), NO_FILL);
        // 1 and 700 times 50 by 701 is 49.9
        Check.row("701, cut", fill(h, 701, 49), 11, 7, 701, 49);
        Check.row("702", fill(h, 702, 1), NO_FILL);
    }

    private static void purityOfFills() {
        BalloonHouse h = new BalloonHouse();
        h.cylinder(100, 60, 3);
        h.cylinder(100, 81, 9);
        // 70.5 together
        Check.row("70 of 70.5", fill(h, 200, 70), 12, 3, 200, 70);
        Check.row("71 of 70.5", fill(h, 200, 71), NO_FILL);
        Check.row("60 of 60", fill(h, 100, 60), 3, 1, 100, 60);
        Check.row("61: both are dearer than one", fill(h, 100, 61), 9, 2, 100, 81);
        Check.row("81 of 81", fill(h, 100, 81), 9, 2, 100, 81);
        Check.row("82", fill(h, 100, 82), NO_FILL);
        BalloonHouse pure = new BalloonHouse();
        pure.cylinder(1000, 100, 0);
        pure.cylinder(1, 99, 0);
        Check.row("100 of 100", fill(pure, 1000, 100), 0, 1, 1000, 100);
        Check.row("100 of 99.999", fill(pure, 1001, 100), NO_FILL);
        Check.row("99 of 99.999", fill(pure, 1001, 99), 0, 3, 1001, 99);
        // A cylinder that is not pure enough by itself comes along with one that is.
        Check.row("a set ahead of its part", fill(pure, 1, 99), 0, 3, 1001, 99);
    }

    private static void pricesOfFills() {
        BalloonHouse h = new BalloonHouse();
        h.cylinder(500, 90, 1000);
        h.cylinder(250, 90, 499);
        h.cylinder(250, 90, 500);
        Check.row("two for 999", fill(h, 500, 90), 999, 6, 500, 90);
        h.cylinder(500, 90, 999);
        Check.row("the first of two sets for 999", fill(h, 500, 90), 999, 6, 500, 90);
        h.cylinder(500, 90, 998);
        Check.row("one for 998", fill(h, 500, 90), 998, 16, 500, 90);
        h.cylinder(500, 90, 0);
        Check.row("one for nothing", fill(h, 500, 90), 0, 32, 500, 90);
    }

    private static void theFirstOfOnePrice() {
        BalloonHouse h = new BalloonHouse();
        h.cylinder(100, 50, 30);
        h.cylinder(100, 50, 10);
        h.cylinder(100, 50, 20);
        h.cylinder(200, 50, 30);
        Check.row("1 and 2, ahead of 3", fill(h, 200, 50), 30, 6, 200, 50);
        h.cylinder(200, 50, 30);
        Check.row("1 and 2, ahead of 3 and of 4", fill(h, 200, 50), 30, 6, 200, 50);
        BalloonHouse later = new BalloonHouse();
        later.cylinder(100, 50, 30);
        later.cylinder(200, 50, 30);
        later.cylinder(200, 50, 30);
        Check.row("1 ahead of 2", fill(later, 200, 50), 30, 2, 200, 50);
        BalloonHouse ends = new BalloonHouse();
        ends.cylinder(100, 50, 10);
        for (int i = 1; i < 9; i++) {
            ends.cylinder(50, 50, 500);
        }
        ends.cylinder(100, 50, 10);
        Check.row("0 ahead of 9", fill(ends, 100, 50), 10, 1, 100, 50);
        Check.row("0 and 9", fill(ends, 200, 50), 20, 513, 200, 50);
    }

    private static void volumeAtMost() {
        for (int[] w : new int[][] {{449, 449}, {450, 450}, {451, 450}, {1000, 450}}) {
            BalloonHouse h = new BalloonHouse();
            h.balloon(450, 10);
            h.cylinder(w[0], 70, 7);
            Check.due("price", h.fill(0, 1, 1), 7);
            Check.row("gas, purity", Check.of(h, 0, 4, 5), w[1], 70);
        }
        BalloonHouse more = new BalloonHouse();
        more.balloon(100, 10);
        more.cylinder(80, 70, 7);
        more.cylinder(60, 70, 7);
        Check.due("more than its volume may be asked for", more.fill(0, 140, 70), 14);
        Check.row("full", Check.of(more, 0, 4, 5), 100, 70);
        Check.due("all of it is gone", more.count(2), 0);
    }

    private static void fillsUsedUp() {
        BalloonHouse h = new BalloonHouse();
        h.balloon(1000, 10);
        h.balloon(1000, 10);
        h.cylinder(500, 90, 1);
        h.cylinder(400, 80, 2);
        h.cylinder(300, 70, 3);
        Check.due("0 goes", h.fill(1, 450, 50), 1);
        Check.row("0 is gone", fill(h, 1, 1), 2, 2, 400, 80);
        Check.row("1 and 2 are left", fill(h, 700, 50), 5, 6, 700, 75);
        Check.due("1 goes", h.fill(1, 400, 80), 2);
        Check.row("what was in it is gone", Check.of(h, 1, 4, 5), 400, 80);
        Check.row("the other has none", Check.of(h, 0, 4, 5), 0, 0);
        Check.due("no such fill", h.fill(1, 301, 1), -2);
        Check.row("it has what it had", Check.of(h, 1, 4, 5), 400, 80);
        Check.due("2 goes", h.fill(0, 300, 70), 3);
        Check.due("none is left", h.count(2), 0);
    }

    private static void bagsAndLoad() {
        BalloonHouse h = new BalloonHouse();
        h.balloon(1000, 10);
        h.balloon(1000, 1000);
        Check.row("without bags", new int[] {h.of(0, 7), h.of(1, 7)}, 10, 1000);
        h.set(0, 0, 1);
        h.set(1, 0, 40);
        Check.row("with one, with forty", new int[] {h.of(0, 7), h.of(1, 7)}, 15, 1200);
        Check.due("forty were", h.set(1, 0, 0), 40);
        Check.due("none is", h.of(1, 6), 0);
    }

    private static BalloonHouse landed() {
        BalloonHouse h = Check.houseWith(1000, 10, 900, 4);
        h.start(0, 5, 5);
        h.act(0, 2, 1000);
        h.hours(1);
        return h;
    }

    private static BalloonHouse left() {
        BalloonHouse h = Check.houseWith(1000, 10, 900, 4);
        h.wind(1, 0, 0, 9, -3, 0);
        h.start(0, 0, 5);
        h.hours(1);
        return h;
    }

    private static void leaksSetInEachState() {
        for (int what = 0; what <= 2; what++) {
            BalloonHouse h = Check.houseWith(1000, 10, 900, 0);
            Check.due("at home", h.set(0, what, 40), 0);
            Check.due("at home, again", h.set(0, what, 39), 40);
            h.start(0, 5, 5);
            Check.due("flying", h.set(0, what, 38), what == 0 ? -1000 : 39);
            Check.due("flying, again", h.set(0, what, 37), what == 0 ? -1000 : 38);
            Check.due("landed", landed().set(0, what, 1), -1000);
            Check.due("left", left().set(0, what, 1), -1000);
            BalloonHouse back = landed();
            back.home(0);
            Check.due("at home again", back.set(0, what, 1), 0);
        }
    }

    private static void inspectedInEachState() {
        BalloonHouse home = Check.houseWith(1000, 10, 900, 4);
        Check.due("at home, new", home.inspect(0), 0);
        home.hours(9);
        Check.due("hours at home are not flown", home.inspect(0), 0);
        home.start(0, 5, 5);
        Check.due("flying, just started", home.inspect(0), -1);
        home.hours(3);
        Check.due("flying", home.inspect(0), -1);
        Check.due("so it flew three", home.of(0, 10), 3);
        BalloonHouse down = landed();
        down.hours(5);
        Check.due("landed: its hour counts", down.inspect(0), 1);
        Check.due("none since", down.inspect(0), 0);
        BalloonHouse gone = left();
        gone.hours(5);
        Check.due("left: its hour counts", gone.inspect(0), 1);
        Check.due("none since", gone.of(0, 10), 0);
        BalloonHouse back = landed();
        back.home(0);
        Check.due("at home again", back.inspect(0), 1);
    }

    /** A flight of so many hours that ends on the ground, and home. */
    private static BalloonHouse flownFor(int hours) {
        BalloonHouse h = Check.houseWith(1000, 10, 900, 0);
        h.start(0, 5, 5);
        h.hours(hours - 6);
        for (int i = 0; i < 6; i++) {
            h.act(0, 2, 1000);
            h.hours(1);
        }
        h.home(0);
        Check.fillPure(h, 0, 900);
        return h;
    }

    private static void ninetyNineHours() {
        BalloonHouse less = flownFor(99);
        Check.due("99", less.of(0, 10), 99);
        Check.due("it may", less.start(0, 5, 5), 1);
        BalloonHouse even = flownFor(100);
        Check.due("100", even.of(0, 10), 100);
        Check.due("it may not", even.start(0, 5, 5), -2);
        Check.due("inspected", even.inspect(0), 100);
        Check.due("now it may", even.start(0, 5, 5), 1);
        BalloonHouse more = flownFor(101);
        Check.due("101", more.of(0, 10), 101);
        Check.due("it may not", more.start(0, 5, 5), -2);
        // In flight it may go on beyond 100.
        BalloonHouse on = Check.houseWith(1000, 10, 900, 0);
        on.start(0, 5, 5);
        on.hours(100);
        on.hours(100);
        Check.row("200 hours in flight", Check.of(on, 0, 0, 10), 1, 200);
    }

    private static int started(int gas, int purity, int net, int bags, int hour) {
        BalloonHouse h = new BalloonHouse();
        h.balloon(1000, net);
        if (gas > 0) {
            h.cylinder(gas, purity, 0);
            h.fill(0, gas, purity);
        }
        h.set(0, 0, bags);
        Check.hoursTo(h, hour);
        return h.start(0, 5, 5);
    }

    private static void liftAtTheStart() {
        Check.due("lift is load", started(500, 100, 500, 0, 0), 1);
        Check.due("one less", started(499, 100, 500, 0, 0), -3);
        Check.due("with bags", started(700, 100, 500, 40, 0), 1);
        Check.due("with bags, one less", started(699, 100, 500, 40, 0), -3);
        Check.due("by purity", started(1000, 50, 500, 0, 0), 1);
        Check.due("by purity, cut", started(999, 50, 500, 0, 0), -3);
        Check.due("without gas", started(0, 1, 10, 0, 0), -3);
        // 472 and 28.32, cut, are 500; 471 and 28.26 are 499
        Check.due("warmed", started(472, 100, 500, 0, 6), 1);
        Check.due("warmed, one less", started(471, 100, 500, 0, 6), -3);
        Check.due("not yet warmed", started(472, 100, 500, 0, 5), -3);
        Check.due("warmed at 17", started(472, 100, 500, 0, 17), 1);
        Check.due("no more at 18", started(472, 100, 500, 0, 18), -3);
        // More than the volume, when warmed: its lift counts at the start.
        Check.due("full", started(1000, 100, 1000, 12, 6), 1);
        Check.due("full, a bag more", started(1000, 100, 1000, 13, 6), -3);
    }

    private static void startsAtTheEnd() {
        BalloonHouse h = Check.houseWith(1000, 10, 900, 0);
        Check.hoursTo(h, 1000);
        Check.due("at 1,000", h.start(0, 23, 0), 1);
        Check.row("it flies", Check.of(h, 0, 0, 1, 2, 3, 10), 1, 23, 0, 0, 0);
        Check.due("but no hour goes by", h.hours(0), 1000);
        Check.wrongState("none at all", () -> h.hours(1));
        Check.due("one flies", h.count(7), 1);
        Check.due("no track", h.track(0, 999, 0), -1000000);
        Check.due("it may be told an act", h.act(0, 1, 1), 1);
    }

    private static void homeFromEachState() {
        BalloonHouse home = Check.houseWith(1000, 10, 900, 4);
        Check.due("at home", home.home(0), -1);
        home.start(0, 5, 5);
        Check.due("started", home.home(0), -1);
        home.hours(2);
        Check.due("flying", home.home(0), -1);
        Check.row("it flies on", Check.of(home, 0, 0, 3, 4, 6), 1, 2, 900, 4);
        BalloonHouse down = Check.houseWith(1000, 10, 900, 4);
        down.start(0, 5, 5);
        for (int i = 0; i < 8 && down.of(0, 0) == 1; i++) {
            down.act(0, 3, 0);
            down.hours(1);
        }
        Check.due("landed", down.of(0, 0), 2);
        Check.due("landed with gas", down.home(0), 1);
        Check.row("without gas and bags", Check.of(down, 0, 0, 1, 2, 3, 4, 5, 6, 7, 9), 0, -1, -1, 0, 0, 100, 0, 10, 0);
        Check.due("just once", down.home(0), -1);
        BalloonHouse gone = left();
        Check.row("left", Check.of(gone, 0, 0, 3, 4, 6), 3, 1, 900, 4);
        Check.due("home from where it left", gone.home(0), 1);
        Check.row("as new, but for its purity and hours", Check.of(gone, 0, 0, 1, 2, 3, 4, 5, 6, 7, 8, 9, 10),
            0, -1, -1, 0, 0, 100, 0, 10, 0, 0, 1);
        Check.due("without gas it stays", gone.start(0, 5, 5), -3);
    }

    private static void squareAtHome() {
        BalloonHouse h = Check.houseWith(1000, 10, 900, 0);
        Check.row("at home", Check.of(h, 0, 1, 2), -1, -1);
        h.start(0, 0, 23);
        Check.row("started", Check.of(h, 0, 1, 2), 0, 23);
        h.act(0, 2, 1000);
        h.hours(1);
        Check.row("landed", Check.of(h, 0, 0, 1, 2), 2, 0, 23);
        h.home(0);
        Check.row("at home", Check.of(h, 0, 1, 2), -1, -1);
    }
}
