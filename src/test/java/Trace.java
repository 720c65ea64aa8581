/**
 * What later calls show of a house, as texts: some read it, others go on with it. Two houses in one state leave the
 * same texts. Each text is of a house of its own, so that none is used for more than 512 calls.
 */
final class Trace {
    static final int TEXTS = 9;

    private final BalloonHouse house;
    private final StringBuilder text = new StringBuilder();

    private Trace(BalloonHouse house) {
        this.house = house;
    }

    static String of(BalloonHouse house, int which) {
        Trace trace = new Trace(house);
        switch (which) {
            case 0 -> trace.readAll();
            case 1 -> trace.readTracks();
            case 2 -> trace.readForecasts();
            case 3 -> trace.readFound();
            case 4 -> trace.readPlans();
            case 5 -> trace.flyOn(4);
            case 6 -> trace.readLeaksAndTape();
            case 7 -> trace.readWinds();
            default -> trace.addOneOfEach();
        }
        return trace.text.toString();
    }

    private void say(String name, int answer) {
        text.append(name).append(' ').append(answer).append('\n');
    }

    private void tryOne(String name, Check.Call call) {
        text.append(name).append(' ').append(Check.outcome(call)).append('\n');
    }

    private void readAll() {
        for (int what = 0; what <= 9; what++) {
            say("count", house.count(what));
        }
        say("fault", house.fault());
        for (int balloon = 0; balloon < house.count(1); balloon++) {
            for (int what = 0; what <= 10; what++) {
                say("of", house.of(balloon, what));
            }
            say("result", house.result(balloon));
        }
        for (int what = 0; what <= 3; what++) {
            say("fillable", house.fillable(1, 1, what));
            say("fillable", house.fillable(900, 60, what));
        }
        say("ways", house.ways());
        for (int k = 0; k <= 15; k++) {
            say("way", house.way(k));
        }
        for (int what = 0; what <= 2; what++) {
            say("leaks", house.leaks(what));
        }
        for (int k = 0; k < 6; k++) {
            say("ranked", house.ranked(house.count(0), k));
            say("ranked", house.ranked(1003, k));
        }
    }

    private void readTracks() {
        int hour = house.count(0);
        for (int balloon = 0; balloon < house.count(1); balloon++) {
            for (int h = Math.max(0, hour - 4); h < hour; h++) {
                for (int what = 0; what <= 6; what++) {
                    say("track", house.track(balloon, h, what));
                }
            }
        }
    }

    private void readForecasts() {
        int hour = house.count(0);
        for (int level = 1; level <= 6; level++) {
            for (int area = 0; area < 4; area++) {
                for (int h : new int[] {0, 109, 110, 111, 118, 119, 999}) {
                    say("told", house.told(level, area, h, hour));
                }
                say("told", house.told(level, area, 110, hour - 1));
            }
        }
    }

    private void readFound() {
        int hour = house.count(0);
        for (int level = 1; level <= 6; level++) {
            for (int area = 0; area < 4; area++) {
                for (int h = Math.max(0, hour - 5); h < Math.min(hour + 2, 1000); h++) {
                    say("found", house.found(level, area, h));
                }
                say("found", house.found(level, area, 0));
            }
        }
    }

    /** How many levels have one of six winds, by area and hour: sights an hour apart show it. */
    private void readWinds() {
        for (int hour : new int[] {50, 109, 110, 118}) {
            for (int area = 0; area < 4; area++) {
                for (int x = -1; x <= 1; x++) {
                    int startX = area % 2 == 0 ? 6 : 18;
                    int startY = area < 2 ? 6 : 18;
                    int y = hour < 106 ? 0 : area % 2 == 0 ? 1 : -1;
                    house.clear();
                    house.sight(hour, startX, startY);
                    house.sight(hour + 1, startX + x, startY + y);
                    say("ways", house.ways());
                }
            }
        }
    }

    private void readPlans() {
        for (int balloon = 0; balloon < house.count(1); balloon++) {
            for (int n = 1; n <= 3; n++) {
                for (int what = -2; what < n; what++) {
                    say("plan", house.plan(balloon, n, 20, 3, what));
                    say("plan", house.plan(balloon, n, 2, 9, what));
                }
            }
        }
    }

    private void flyOn(int hours) {
        for (int i = 0; i < hours && house.count(0) < 1000; i++) {
            say("hours", house.hours(1));
            for (int balloon = 0; balloon < house.count(1); balloon++) {
                for (int what : new int[] {0, 1, 2, 3, 4, 6, 9}) {
                    say("of", house.of(balloon, what));
                }
            }
        }
    }

    private void readLeaksAndTape() {
        for (int balloon = 0; balloon < house.count(1); balloon++) {
            say("leak", house.set(balloon, 1, 20));
            say("leak", house.set(balloon, 1, 30));
            say("taken", house.set(balloon, 2, 40));
            say("taken", house.set(balloon, 2, 50));
        }
        say("sights", house.clear());
        say("log", house.unlog());
        if (house.count(1) > 0) {
            int bytes = house.count(8);
            say("orders", house.orders(0, bytes));
            say("fault", house.fault());
        }
        flyOn(3);
    }

    private void addOneOfEach() {
        tryOne("balloon", () -> house.balloon(1000, 50));
        tryOne("cylinder", () -> house.cylinder(700, 77, 7));
        tryOne("forecast", () -> house.forecast(1, 0, 0, 1000, 1, 1));
        tryOne("zone", () -> house.zone(0, 575, 16, 0, 1000, 3));
        tryOne("sight", () -> house.sight(130, 5, 5));
        tryOne("log", () -> house.log(50, 5));
        tryOne("feed", () -> house.feed(1, 2, 3, 4, 5));
        for (int balloon = 0; balloon < house.count(1); balloon++) {
            int b = balloon;
            tryOne("enter", () -> house.enter(b));
            tryOne("home", () -> house.home(b));
            tryOne("fill", () -> house.fill(b, 600, 50));
            tryOne("start", () -> house.start(b, 9, 9));
            tryOne("inspect", () -> house.inspect(b));
            tryOne("start", () -> house.start(b, 12, 15));
            tryOne("act", () -> house.act(b, 1, 1));
        }
        flyOn(2);
    }
}
