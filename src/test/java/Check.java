/** What the tests share: due answers, due exceptions, orders as text. */
final class Check {
    interface Call {
        int answer();
    }

    private static int asked = 0;
    private static int wrong = 0;

    private Check() {
    }

    static void due(String what, int got, int want) {
        asked++;
        if (got != want) {
            wrong++;
            System.out.println(what + " answered " + got + ", due is " + want);
        }
    }

    static void same(String what, String got, String want) {
        asked++;
        if (!got.equals(want)) {
            wrong++;
            System.out.println(what + " answered " + got + ", due is " + want);
        }
    }

    /** The answers of several calls, one behind another. */
    static void row(String what, int[] got, int... want) {
        same(what, java.util.Arrays.toString(got), java.util.Arrays.toString(want));
    }

    static String outcome(Call call) {
        try {
            return Integer.toString(call.answer());
        } catch (RuntimeException e) {
            return "throws." + e.getClass().getSimpleName();
        }
    }

    static void illegal(String what, Call call) {
        same(what, outcome(call), "throws.IllegalArgumentException");
    }

    static void noBalloon(String what, Call call) {
        same(what, outcome(call), "throws.IndexOutOfBoundsException");
    }

    static void wrongState(String what, Call call) {
        same(what, outcome(call), "throws.IllegalStateException");
    }

    interface Asked {
        int answer(int n);
    }

    /** The least and the greatest that are allowed answer as due; one less, one more and what is far off throw. */
    static void limits(String what, int least, int most, int due, Asked call) {
        for (int n : new int[] {least, most}) {
            same(what + " " + n, outcome(() -> call.answer(n)), Integer.toString(due));
        }
        for (int n : new int[] {least - 1, most + 1, Integer.MIN_VALUE, Integer.MAX_VALUE}) {
            illegal(what + " " + n, () -> call.answer(n));
        }
    }

    /** Hours go by till an hour is there. */
    static void hoursTo(BalloonHouse house, int hour) {
        for (int left = hour - house.count(0); left > 0; left -= 100) {
            house.hours(Math.min(left, 100));
        }
    }

    static void feedText(BalloonHouse house, String text) {
        for (int from = 0; from < text.length(); from += 20) {
            int[] n = new int[5];
            for (int i = 0; i < 20; i++) {
                int c = from + i < text.length() ? text.charAt(from + i) & 255 : 0;
                n[i / 4] = n[i / 4] << 8 | c;
            }
            house.feed(n[0], n[1], n[2], n[3], n[4]);
        }
    }

    static int orders(BalloonHouse house, int balloon, String text) {
        feedText(house, text);
        return house.orders(balloon, text.length());
    }

    /** A house with a balloon of pure gas, as much as is told, and as many bags. */
    static BalloonHouse houseWith(int volume, int net, int gas, int bags) {
        BalloonHouse house = new BalloonHouse();
        house.balloon(volume, net);
        fillPure(house, 0, gas);
        house.set(0, 0, bags);
        return house;
    }

    static void fillPure(BalloonHouse house, int balloon, int gas) {
        for (int left = gas; left > 0; left -= 1000) {
            house.cylinder(Math.min(left, 1000), 100, 0);
        }
        house.fill(balloon, gas, 100);
    }

    static int[] of(BalloonHouse house, int balloon, int... whats) {
        int[] got = new int[whats.length];
        for (int i = 0; i < whats.length; i++) {
            got[i] = house.of(balloon, whats[i]);
        }
        return got;
    }

    static int[] track(BalloonHouse house, int balloon, int hour) {
        int[] got = new int[7];
        for (int i = 0; i < 7; i++) {
            got[i] = house.track(balloon, hour, i);
        }
        return got;
    }

    static void end() {
        System.out.println(asked - wrong + " of " + asked + " answers are as due");
        if (wrong != 0 || asked == 0) {
            System.exit(1);
        }
    }
}
