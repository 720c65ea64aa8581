/** Edges of an hour in flight: acts, leaks, warm gas, rising and sinking, the field's sides, track (2., 18, 19, 21). */
public final class EdgeFlightTest {
    public static void main(String[] args) {
        drops();
        valves();
        lands();
        holds();
        toldForOneHour();
        leakOfEachSize();
        leakComesBehindTheAct();
        warmedToItsVolume();
        liftThatIsLoad();
        ground();
        noHoursOnTheGround();
        top();
        sidesOfTheField();
        leftWhereItWas();
        noHours();
        hoursAtOnce();
        trackAtItsEnds();
        trackOfASecondFlight();
        Check.end();
    }

    /** An act of the first hour of one with so much gas and so many bags: gas, bags, act, how much. */
    private static int[] afterAct(int gas, int bags, int act, int much) {
        BalloonHouse h = Check.houseWith(1000, 10, gas, bags);
        h.start(0, 5, 5);
        h.act(0, act, much);
        h.hours(1);
        int[] row = Check.track(h, 0, 0);
        Check.row("of and track tell one thing", new int[] {h.of(0, 4), h.of(0, 6)}, row[3], row[4]);
        return new int[] {row[3], row[4], row[5], row[6]};
    }

    private static void drops() {
        Check.row("none of 5", afterAct(900, 5, 1, 0), 900, 5, 1, 0);
        Check.row("one of 5", afterAct(900, 5, 1, 1), 900, 4, 1, 1);
        Check.row("4 of 5", afterAct(900, 5, 1, 4), 900, 1, 1, 4);
        Check.row("5 of 5", afterAct(900, 5, 1, 5), 900, 0, 1, 5);
        Check.row("6 of 5", afterAct(900, 5, 1, 6), 900, 0, 1, 5);
        Check.row("1,000 of 40", afterAct(900, 40, 1, 1000), 900, 0, 1, 40);
        Check.row("one of none", afterAct(900, 0, 1, 1), 900, 0, 1, 0);
    }

    private static void valves() {
        Check.row("none of 900", afterAct(900, 0, 2, 0), 900, 0, 2, 0);
        Check.row("one", afterAct(900, 0, 2, 1), 899, 0, 2, 1);
        Check.row("899", afterAct(900, 0, 2, 899), 1, 0, 2, 899);
        Check.row("900", afterAct(900, 0, 2, 900), 0, 0, 2, 900);
        Check.row("901 of 900", afterAct(900, 0, 2, 901), 0, 0, 2, 900);
        Check.row("1,000 of 1,000", afterAct(1000, 0, 2, 1000), 0, 0, 2, 1000);
        BalloonHouse empty = Check.houseWith(1000, 10, 900, 0);
        empty.start(0, 5, 5);
        empty.hours(3);
        empty.act(0, 2, 900);
        empty.hours(1);
        empty.act(0, 2, 1);
        empty.hours(1);
        Check.row("one of none", Check.track(empty, 0, 4), 5, 5, 1, 0, 0, 2, 0);
        BalloonHouse half = Check.houseWith(1000, 10, 900, 0);
        half.start(0, 5, 5);
        half.hours(3);
        half.act(0, 2, 900);
        half.hours(1);
        half.act(0, 3, 1);
        half.hours(1);
        Check.row("half of none", Check.track(half, 0, 4), 5, 5, 1, 0, 0, 3, 0);
    }

    private static void lands() {
        Check.row("half of 900", afterAct(900, 3, 3, 0), 450, 3, 3, 450);
        Check.row("half of 901, cut, is gone", afterAct(901, 3, 3, 0), 451, 3, 3, 450);
        Check.row("what was told with it does not count", afterAct(900, 3, 3, 1000), 450, 3, 3, 450);
        BalloonHouse h = Check.houseWith(1000, 10, 100, 0);
        h.start(0, 5, 5);
        h.hours(3);
        h.act(0, 2, 99);
        h.hours(1);
        h.act(0, 3, 0);
        h.hours(1);
        Check.row("half of one is none", Check.track(h, 0, 4), 5, 5, 1, 1, 0, 3, 0);
    }

    private static void holds() {
        Check.row("hold", afterAct(900, 3, 0, 0), 900, 3, 0, 0);
        Check.row("hold, how much does not count", afterAct(900, 3, 0, 1000), 900, 3, 0, 0);
        BalloonHouse h = Check.houseWith(1000, 10, 900, 3);
        h.start(0, 5, 5);
        h.hours(1);
        Check.row("without orders it is hold", Check.track(h, 0, 0), 5, 5, 1, 900, 3, 0, 0);
    }

    private static void toldForOneHour() {
        BalloonHouse h = Check.houseWith(1000, 10, 900, 9);
        h.start(0, 5, 5);
        h.act(0, 1, 2);
        h.hours(2);
        Check.row("just one hour", new int[] {h.track(0, 0, 5), h.track(0, 1, 5), h.of(0, 6)}, 1, 0, 7);
        h.act(0, 1, 2);
        h.act(0, 2, 30);
        h.hours(1);
        Check.row("the last one told", Check.track(h, 0, 2), 5, 5, 3, 870, 7, 2, 30);
        h.act(0, 1, 2);
        h.act(0, 0, 0);
        h.hours(1);
        Check.row("hold told over drop", Check.track(h, 0, 3), 5, 5, 4, 870, 7, 0, 0);
        BalloonHouse two = Check.houseWith(1000, 10, 900, 9);
        two.balloon(1000, 10);
        Check.fillPure(two, 1, 900);
        two.set(1, 0, 9);
        two.start(0, 5, 5);
        two.start(1, 5, 5);
        two.act(1, 1, 5);
        two.hours(1);
        Check.row("just the one it was told for", new int[] {two.of(0, 6), two.of(1, 6)}, 9, 4);
        // What was told for an hour in which it came down is not told for its next flight.
        BalloonHouse down = Check.houseWith(1000, 10, 900, 9);
        down.start(0, 5, 5);
        down.act(0, 2, 1000);
        down.hours(1);
        down.home(0);
        Check.fillPure(down, 0, 900);
        down.start(0, 5, 5);
        down.hours(1);
        Check.row("a new flight holds", Check.track(down, 0, 1), 5, 5, 1, 900, 0, 0, 0);
    }

    private static int leaked(int gas, int leak) {
        BalloonHouse h = Check.houseWith(5000, 10, gas, 0);
        h.set(0, 1, leak);
        h.start(0, 5, 5);
        h.hours(1);
        return h.of(0, 4);
    }

    private static void leakOfEachSize() {
        int[][] want = {{900, 0, 900}, {999, 1, 998}, {1000, 1, 998}, {1001, 1, 999}, {4999, 1, 4994}, {5000, 1, 4994},
            {10, 100, 8}, {19, 100, 17}, {20, 100, 17}, {100, 9, 99}, {100, 10, 98}, {5000, 100, 4499}, {4999, 100, 4499},
            {5000, 99, 4504}, {11, 90, 10}, {12, 90, 10}};
        for (int[] w : want) {
            Check.due(w[0] + " with " + w[1], leaked(w[0], w[1]), w[2]);
        }
    }

    private static void leakComesBehindTheAct() {
        BalloonHouse h = Check.houseWith(1000, 10, 1000, 0);
        h.set(0, 1, 100);
        h.start(0, 5, 5);
        h.act(0, 2, 1000);
        h.hours(1);
        Check.row("no gas, no 1", Check.track(h, 0, 0), 5, 5, 0, 0, 0, 2, 1000);
        BalloonHouse one = Check.houseWith(1000, 10, 1000, 0);
        one.set(0, 1, 1);
        one.start(0, 5, 5);
        one.act(0, 2, 999);
        one.hours(1);
        Check.row("the last one goes", Check.track(one, 0, 0), 5, 5, 0, 0, 0, 2, 999);
        BalloonHouse two = Check.houseWith(1000, 10, 1000, 0);
        two.set(0, 1, 100);
        two.start(0, 5, 5);
        two.act(0, 2, 998);
        two.hours(1);
        Check.due("one of two", two.of(0, 4), 1);
        BalloonHouse set = Check.houseWith(1000, 10, 1000, 0);
        set.start(0, 5, 5);
        set.set(0, 1, 100);
        set.set(0, 1, 0);
        set.hours(1);
        Check.due("set to nothing again", set.of(0, 4), 1000);
    }

    /** Gas behind the first hour, of one that is full. */
    private static int kept(int volume, int gas, int hour, boolean cloud) {
        BalloonHouse h = Check.houseWith(volume, 10, gas, 0);
        h.cloud(hour, 1, cloud);
        h.hours(hour);
        h.start(0, 5, 5);
        h.hours(1);
        return h.of(0, 4);
    }

    private static void warmedToItsVolume() {
        // volume, gas with sun, gas with cloud: the most that, 60 or 20 thousandths more, cut, is not above it
        int[][] want = {{100, 95, 99}, {101, 96, 99}, {105, 99, 103}, {106, 100, 104}, {1000, 944, 981}, {5000, 4717, 4902},
            {4999, 4716, 4901}};
        for (int[] w : want) {
            Check.due(w[0] + " with sun", kept(w[0], w[0], 6, false), w[1]);
            Check.due(w[0] + " with cloud", kept(w[0], w[0], 6, true), w[2]);
            Check.due(w[0] + " by night", kept(w[0], w[0], 5, true), w[0]);
            Check.due("just that with sun", kept(w[0], w[1], 17, false), w[1]);
            Check.due("one more with sun", kept(w[0], w[1] + 1, 17, false), w[1]);
            Check.due("just that with cloud", kept(w[0], w[2], 17, true), w[2]);
            Check.due("one more with cloud", kept(w[0], w[2] + 1, 17, true), w[2]);
            Check.due("at 18 it stays", kept(w[0], w[0], 18, false), w[0]);
        }
    }

    private static int levelAfter(int gas, int net, int hours) {
        BalloonHouse h = Check.houseWith(5000, net, gas, 0);
        h.start(0, 5, 5);
        h.hours(hours);
        return h.of(0, 3);
    }

    private static void liftThatIsLoad() {
        // Gas of 1,000 lifts 1,000, 920, 840, 770, 700, 640, 580 by night: it rises as far as that is its load.
        int[] lifts = {1000, 920, 840, 770, 700, 640, 580};
        for (int level = 1; level <= 5; level++) {
            Check.due("up to " + level, levelAfter(1000, lifts[level], 6), level);
            Check.due("one more is too much", levelAfter(1000, lifts[level] + 1, 5), level - 1);
        }
        Check.due("up to 6", levelAfter(1000, 580, 6), 6);
        Check.due("not to 6", levelAfter(1000, 581, 6), 5);
        // It sinks when lift at its level is below its load: 920 of lift, 919 by 999 of gas.
        BalloonHouse even = Check.houseWith(1000, 919, 1000, 0);
        even.start(0, 5, 5);
        even.hours(1);
        even.act(0, 2, 1);
        even.hours(1);
        Check.row("lift is load: it stays", Check.of(even, 0, 0, 3, 8), 1, 1, 919);
        even.act(0, 2, 1);
        even.hours(1);
        Check.row("below: it sinks, and lands", Check.of(even, 0, 0, 3), 2, 0);
        BalloonHouse bag = Check.houseWith(1000, 830, 1000, 2);
        bag.start(0, 5, 5);
        bag.hours(1);
        Check.due("level 1", bag.of(0, 3), 1);
        bag.hours(1);
        Check.due("level 2: 840 is its load", bag.of(0, 3), 2);
        bag.act(0, 1, 2);
        bag.hours(1);
        Check.due("no higher: 770 is below 830", bag.of(0, 3), 2);
    }

    private static void ground() {
        BalloonHouse h = Check.houseWith(1000, 1000, 1000, 0);
        Check.due("it may start", h.start(0, 7, 8), 1);
        h.hours(1);
        Check.row("but it stays on the ground", Check.of(h, 0, 0, 1, 2, 3, 10), 2, 7, 8, 0, 1);
        Check.row("with a row", Check.track(h, 0, 0), 7, 8, 0, 1000, 0, 0, 0);
        BalloonHouse heavy = Check.houseWith(1000, 1000, 1000, 0);
        heavy.start(0, 7, 8);
        heavy.act(0, 2, 1);
        heavy.hours(1);
        Check.row("too heavy: not below 0", Check.of(heavy, 0, 0, 3), 2, 0);
        BalloonHouse empty = Check.houseWith(1000, 10, 1000, 0);
        empty.start(0, 7, 8);
        empty.hours(3);
        empty.act(0, 2, 1000);
        for (int level = 2; level >= 0; level--) {
            empty.hours(1);
            Check.row("by one each hour", Check.of(empty, 0, 0, 3), level == 0 ? 2 : 1, level);
        }
        empty.hours(2);
        Check.row("then no more", Check.of(empty, 0, 0, 3, 10), 2, 0, 6);
    }

    /** Hours go by for those that fly alone: on the ground, and beyond the field, nothing leaks, warms or is dropped. */
    private static void noHoursOnTheGround() {
        BalloonHouse h = Check.houseWith(1000, 10, 1000, 9);
        h.set(0, 1, 100);
        Check.orders(h, 0, "drop 1;");
        h.zone(0, 575, 6, 0, 1000, 9);
        h.hours(20);
        Check.row("at home", Check.of(h, 0, 0, 4, 6, 9, 10), 0, 1000, 9, 0, 0);
        h.start(0, 5, 5);
        h.act(0, 3, 0);
        h.hours(1);
        // 500, less 50 and 1; level 1 by a load of 55
        Check.row("in flight", Check.of(h, 0, 0, 3, 4, 6, 9, 10), 1, 1, 449, 9, 9, 1);
        h.act(0, 2, 440);
        h.hours(1);
        Check.row("landed with some gas", Check.of(h, 0, 0, 3, 4, 6, 9, 10), 2, 0, 8, 9, 9, 2);
        h.hours(50);
        Check.row("landed", Check.of(h, 0, 0, 3, 4, 6, 9, 10), 2, 0, 8, 9, 9, 2);
        BalloonHouse left = Check.houseWith(1000, 10, 1000, 9);
        left.set(0, 1, 100);
        Check.orders(left, 0, "drop 1;");
        left.zone(0, 575, 6, 0, 1000, 9);
        left.wind(1, 0, 0, 1, -3, 0);
        left.start(0, 0, 0);
        left.hours(1);
        Check.row("left", Check.of(left, 0, 0, 3, 4, 6, 9, 10), 3, 1, 899, 8, 9, 1);
        left.hours(50);
        Check.row("left for good", Check.of(left, 0, 0, 3, 4, 6, 9, 10), 3, 1, 899, 8, 9, 1);
    }

    private static void top() {
        BalloonHouse h = Check.houseWith(5000, 10, 5000, 0);
        h.start(0, 7, 8);
        for (int hour = 1; hour <= 9; hour++) {
            h.hours(1);
            Check.due("level", h.of(0, 3), Math.min(hour, 6));
        }
    }

    /** Where one comes to that started at a square and is carried in its first hour: state, x, y. */
    private static int[] carried(int x, int y, int dx, int dy) {
        BalloonHouse h = Check.houseWith(1000, 10, 900, 0);
        for (int area = 0; area < 4; area++) {
            h.wind(1, area, 0, 1, dx, dy);
        }
        h.start(0, x, y);
        h.hours(1);
        return Check.of(h, 0, 0, 1, 2);
    }

    private static void sidesOfTheField() {
        for (int pull = 1; pull <= 3; pull++) {
            Check.row("to x 0", carried(pull, 9, -pull, 0), 1, 0, 9);
            Check.row("beyond x 0", carried(pull - 1, 9, -pull, 0), 3, pull - 1, 9);
            Check.row("to x 23", carried(23 - pull, 9, pull, 0), 1, 23, 9);
            Check.row("beyond x 23", carried(24 - pull, 9, pull, 0), 3, 24 - pull, 9);
            Check.row("to y 0", carried(9, pull, 0, -pull), 1, 9, 0);
            Check.row("beyond y 0", carried(9, pull - 1, 0, -pull), 3, 9, pull - 1);
            Check.row("to y 23", carried(9, 23 - pull, 0, pull), 1, 9, 23);
            Check.row("beyond y 23", carried(9, 24 - pull, 0, pull), 3, 9, 24 - pull);
        }
        Check.row("to the first corner", carried(3, 3, -3, -3), 1, 0, 0);
        Check.row("to the last corner", carried(20, 20, 3, 3), 1, 23, 23);
        Check.row("beyond x alone: y stays too", carried(1, 9, -2, 3), 3, 1, 9);
        Check.row("beyond y alone: x stays too", carried(9, 22, 3, 2), 3, 9, 22);
        Check.row("beyond both", carried(0, 23, -1, 1), 3, 0, 23);
        Check.row("along a side", carried(0, 5, 0, 3), 1, 0, 8);
    }

    private static void leftWhereItWas() {
        BalloonHouse h = Check.houseWith(1000, 10, 900, 9);
        h.wind(2, 0, 1, 1, -3, 0);
        h.start(0, 2, 2);
        h.hours(1);
        h.act(0, 1, 4);
        h.hours(1);
        Check.row("it left at the level it came to", Check.of(h, 0, 0, 1, 2, 3, 4, 6, 10), 3, 2, 2, 2, 900, 5, 2);
        Check.row("with a row", Check.track(h, 0, 1), 2, 2, 2, 900, 5, 1, 4);
        Check.due("it found that wind", h.found(2, 0, 1), 3);
        h.hours(3);
        Check.row("no hours behind that", Check.of(h, 0, 0, 3, 10), 3, 2, 2);
        Check.due("and no rows", h.track(0, 2, 0), -1000000);
        Check.due("no more found", h.count(9), 2);
        Check.due("none flies", h.count(7), 0);
    }

    private static void noHours() {
        BalloonHouse h = Check.houseWith(1000, 10, 900, 9);
        Check.due("none at 0", h.hours(0), 0);
        h.start(0, 5, 5);
        h.act(0, 1, 2);
        Check.due("none, flying", h.hours(0), 0);
        Check.row("nothing was done", Check.of(h, 0, 0, 3, 6, 10), 1, 0, 9, 0);
        h.hours(1);
        Check.row("then it is", Check.of(h, 0, 0, 3, 6, 10), 1, 1, 7, 1);
    }

    private static void hoursAtOnce() {
        BalloonHouse one = Check.houseWith(1000, 500, 900, 20);
        BalloonHouse other = Check.houseWith(1000, 500, 900, 20);
        for (BalloonHouse h : new BalloonHouse[] {one, other}) {
            for (int level = 1; level <= 6; level++) {
                for (int area = 0; area < 4; area++) {
                    h.wind(level, area, 0, 100, level % 2 == 0 ? 1 : -1, area < 2 ? 1 : -1);
                }
            }
            h.set(0, 1, 2);
            Check.orders(h, 0, "if lift<load:drop 3;if sun=1:valve 1;");
            h.start(0, 12, 12);
        }
        Check.due("a hundred at once", one.hours(100), 100);
        for (int i = 1; i <= 100; i++) {
            other.hours(1);
        }
        for (int hour = 0; hour < 30; hour++) {
            Check.row("hour " + hour, Check.track(one, 0, hour), Check.track(other, 0, hour));
        }
        Check.row("in the end", Check.of(one, 0, 0, 1, 2, 3, 4, 6, 10), Check.of(other, 0, 0, 1, 2, 3, 4, 6, 10));
    }

    private static final int[] NO_ROW = {-1000000, -1000000, -1000000, -1000000, -1000000, -1000000, -1000000};

    private static void trackAtItsEnds() {
        BalloonHouse h = Check.houseWith(1000, 10, 900, 9);
        Check.row("at home", Check.track(h, 0, 0), NO_ROW);
        h.hours(3);
        h.start(0, 5, 5);
        Check.row("just started", Check.track(h, 0, 3), NO_ROW);
        Check.row("the hour ahead", Check.track(h, 0, 2), NO_ROW);
        h.hours(2);
        Check.row("ahead of its start", Check.track(h, 0, 2), NO_ROW);
        Check.row("its first hour", Check.track(h, 0, 3), 5, 5, 1, 900, 9, 0, 0);
        Check.row("its latest hour", Check.track(h, 0, 4), 5, 5, 2, 900, 9, 0, 0);
        Check.row("the hour to come", Check.track(h, 0, 5), NO_ROW);
        BalloonHouse ends = Check.houseWith(1000, 10, 900, 0);
        ends.start(0, 5, 5);
        Check.hoursTo(ends, 1000);
        Check.row("the first hour of all", Check.track(ends, 0, 0), 5, 5, 1, 900, 0, 0, 0);
        Check.row("the last hour of all", Check.track(ends, 0, 999), 5, 5, 6, 900, 0, 0, 0);
        Check.row("none behind it", Check.track(ends, 0, 1000), NO_ROW);
        Check.row("none ahead of all", Check.track(ends, 0, -1), NO_ROW);
        Check.due("a thousand hours", ends.of(0, 10), 1000);
    }

    private static void trackOfASecondFlight() {
        BalloonHouse h = Check.houseWith(1000, 10, 900, 0);
        h.start(0, 5, 5);
        h.act(0, 2, 1000);
        h.hours(1);
        Check.row("landed", Check.track(h, 0, 0), 5, 5, 0, 0, 0, 2, 900);
        h.hours(2);
        h.home(0);
        Check.row("at home it is gone", Check.track(h, 0, 0), NO_ROW);
        Check.fillPure(h, 0, 900);
        h.start(0, 9, 9);
        Check.row("and stays gone", Check.track(h, 0, 0), NO_ROW);
        h.hours(1);
        for (int hour = 0; hour < 3; hour++) {
            Check.row("hour " + hour, Check.track(h, 0, hour), NO_ROW);
        }
        Check.row("the new one", Check.track(h, 0, 3), 9, 9, 1, 900, 0, 0, 0);
    }
}
