import java.lang.reflect.InvocationTargetException;
import java.lang.reflect.Method;
import java.util.HashMap;
import java.util.Map;
import java.util.Random;

/** All promises: made-up runs of calls on BalloonHouse and on Mirror must answer alike. */
public final class MirrorTest {
    private static final Map<String, Method> CLASS_CALLS = callsOf(BalloonHouse.class);
    private static final Map<String, Method> MIRROR_CALLS = callsOf(Mirror.class);
    private static final int RUNS = 600;
    private static final int CALLS = 512;

    private final Random random;
    private final int run;
    private final BalloonHouse house = new BalloonHouse();
    private final Mirror mirror = new Mirror();
    private int calls = 0;

    private MirrorTest(int run) {
        this.run = run;
        random = new Random(run * 7919L + 17);
    }

    private static Map<String, Method> callsOf(Class<?> type) {
        Map<String, Method> calls = new HashMap<>();
        for (Method m : type.getDeclaredMethods()) {
            m.setAccessible(true);
            calls.put(m.getName() + m.getParameterCount(), m);
        }
        return calls;
    }

    private static String answer(Method call, Object on, Object[] args) {
        try {
            return call.invoke(on, args).toString();
        } catch (InvocationTargetException e) {
            return "throws." + e.getCause().getClass().getSimpleName();
        } catch (IllegalAccessException e) {
            return "no access";
        }
    }

    /** What an object answers behind its last call is free: no more is asked then. */
    private void ask(String name, Object... args) {
        if (calls >= CALLS) {
            return;
        }
        calls++;
        String got = answer(CLASS_CALLS.get(name + args.length), house, args);
        String want = answer(MIRROR_CALLS.get(name + args.length), mirror, args);
        Check.same("run " + run + ", call " + calls + ": " + name + java.util.Arrays.toString(args), got, want);
    }

    private int upTo(int most) {
        return random.nextInt(most + 1);
    }

    private int between(int least, int most) {
        return least + random.nextInt(most - least + 1);
    }

    /** Mostly within, at times on an edge, at times beyond it or far away. */
    private int about(int least, int most) {
        switch (random.nextInt(40)) {
            case 0: return least - 1;
            case 1: return most + 1;
            case 2: return least;
            case 3: return most;
            case 4: return random.nextInt(6) == 0 ? random.nextInt() : least;
            case 5: return random.nextInt(6) == 0 ? (random.nextBoolean() ? Integer.MIN_VALUE : Integer.MAX_VALUE) : most;
            default: return between(least, most);
        }
    }

    private int someBalloon() {
        return random.nextInt(30) == 0 ? about(-1, 6) : random.nextInt(Math.max(1, mirror.fliers.size()));
    }

    private int aboutNow(int before, int behind) {
        return about(Math.max(0, mirror.hour - before), Math.max(0, Math.min(999, mirror.hour + behind)));
    }

    private void go() {
        int focus = run % 6;
        if (focus == 5) {
            ask("hours", 100);
            for (int i = 0; i < 8; i++) {
                ask("hours", 100);
            }
        }
        setUp();
        while (calls < CALLS) {
            int kind = random.nextInt(100);
            if (focus == 1 && kind < 50) {
                giveOrders();
            } else if (focus == 2 && kind < 70) {
                lookAtSights();
            } else if (focus == 3 && kind < 70) {
                lookAtLog();
            } else if (focus == 4 && kind < 40) {
                plan();
            } else {
                anything(kind);
            }
        }
    }

    private void setUp() {
        for (int level = 1; level <= 6; level++) {
            for (int area = 0; area < 4; area++) {
                if (random.nextInt(4) > 0) {
                    wind(level, area);
                }
                if (random.nextInt(4) == 0 || run % 6 == 4) {
                    forecast(level, area);
                }
            }
        }
        for (int i = between(1, 6); i > 0; i--) {
            int volume = between(150, random.nextBoolean() ? 500 : 1000);
            int purity = between(60, 100);
            // Nets near what the gas lifts half way up: then a bag, or a little gas, changes the level.
            ask("balloon", volume, Math.max(10, Math.min(1000, volume * purity / 100 * between(50, 90) / 100)));
            ask("cylinder", Math.min(1000, volume * between(85, 110) / 100), purity, upTo(30));
        }
        for (int i = between(0, 4); i > 0; i--) {
            ask("cylinder", between(1, 1000), between(60, 100), upTo(30));
        }
        for (int i = 0; i < mirror.fliers.size(); i++) {
            prepare(i);
        }
    }

    private void prepare(int i) {
        int room = mirror.fliers.get(i).volume;
        ask("fill", i, Math.max(1, room * between(70, 90) / 100), between(60, 70));
        ask("set", i, 0, upTo(random.nextInt(3) == 0 ? 40 : 8));
        if (random.nextBoolean()) {
            ask("set", i, 1, upTo(15));
            ask("set", i, 2, upTo(15));
        }
        if (random.nextInt(3) > 0) {
            ask("enter", i);
        }
        ask("start", i, upTo(23), upTo(23));
    }

    private void wind(int level, int area) {
        int most = random.nextInt(3) == 0 ? 3 : 1;
        ask("wind", level, area, Math.min(999, mirror.hour), between(1, Math.max(1, Math.min(60, 1000 - mirror.hour))),
            between(-most, most), between(-most, most));
    }

    private void forecast(int level, int area) {
        ask("forecast", level, area, Math.min(999, mirror.hour), between(1, Math.max(1, Math.min(30, 1000 - mirror.hour))),
            between(-3, 3), between(-3, 3));
    }

    private void anything(int kind) {
        if (kind < 8) {
            ask("hours", random.nextInt(12) == 0 ? about(0, 100) : between(0, 4));
        } else if (kind < 14) {
            ask("wind", about(1, 6), about(0, 3), aboutNow(3, 20), about(1, 30), about(-3, 3), about(-3, 3));
        } else if (kind < 20) {
            ask("forecast", about(1, 6), about(0, 3), aboutNow(3, 20), about(1, 30), about(-3, 3), about(-3, 3));
        } else if (kind < 26) {
            ask("told", about(1, 6), about(0, 3), aboutNow(5, 20), between(mirror.hour - 10, mirror.hour + 3));
            ask("found", about(1, 6), about(0, 3), aboutNow(10, 3));
        } else if (kind < 29) {
            ask("cloud", aboutNow(3, 12), about(1, 12), random.nextBoolean());
        } else if (kind < 31) {
            ask("balloon", about(100, 5000), about(10, 1000));
        } else if (kind < 34) {
            ask("cylinder", about(1, 1000), about(1, 100), about(0, 1000));
        } else if (kind < 38) {
            ask("fillable", about(1, random.nextBoolean() ? 3000 : 10000), about(1, 100), about(0, 3));
        } else if (kind < 41) {
            ask("fill", someBalloon(), about(1, 2000), about(1, 100));
        } else if (kind < 45) {
            int what = about(0, 2);
            ask("set", someBalloon(), what, about(0, what == 0 ? 40 : 100));
        } else if (kind < 48) {
            ask(random.nextBoolean() ? "inspect" : "enter", someBalloon());
        } else if (kind < 51) {
            ask("start", someBalloon(), about(0, 23), about(0, 23));
        } else if (kind < 54) {
            ask("home", someBalloon());
            freshGas();
        } else if (kind < 58) {
            giveOrders();
        } else if (kind < 63) {
            ask("act", someBalloon(), about(0, 3), random.nextBoolean() ? upTo(30) : about(0, 1000));
        } else if (kind < 72) {
            ask("of", someBalloon(), about(0, 10));
        } else if (kind < 78) {
            ask("track", someBalloon(), aboutNow(20, 1), about(0, 6));
        } else if (kind < 81) {
            plan();
        } else if (kind < 84) {
            aboutZones();
        } else if (kind < 88) {
            lookAtSights();
        } else if (kind < 91) {
            lookAtLog();
        } else if (kind < 96) {
            ask("result", someBalloon());
            ask("ranked", random.nextInt(4) == 0 ? random.nextInt() : mirror.hour + between(-5, 5), about(0, 3));
        } else {
            ask("count", about(0, 9));
        }
    }

    private void freshGas() {
        ask("cylinder", between(500, 1000), between(80, 100), upTo(30));
        for (int i = 0; i < mirror.fliers.size(); i++) {
            if (mirror.fliers.get(i).state == 0 && random.nextBoolean()) {
                prepare(i);
            }
        }
    }

    private void plan() {
        int n = about(1, 6);
        int balloon = someBalloon();
        int x = about(0, 23);
        int y = about(0, 23);
        boolean near = Mirror.in(balloon, 0, mirror.fliers.size() - 1) && random.nextInt(4) > 0;
        if (near) {
            x = seenNear(mirror.fliers.get(balloon).x);
            y = seenNear(mirror.fliers.get(balloon).y);
        }
        ask("plan", balloon, n, x, y, about(-2, n < 1 || n > 6 ? 3 : n - 1));
        if (near && Mirror.in(n, 1, 6) && random.nextInt(4) == 0) {
            for (int what = -2; what < n; what++) {
                ask("plan", balloon, n, x, y, what);
            }
        }
    }

    private void aboutZones() {
        int width = random.nextInt(3) == 0 ? 23 : 6;
        int x = upTo(23 - width);
        int y = upTo(23 - width);
        int one = 24 * y + x;
        int other = 24 * (y + width) + x + width;
        if (random.nextInt(8) == 0) {
            one = about(0, 575);
            other = about(0, 575);
        }
        int levels = random.nextInt(6) == 0 ? about(0, 66) : between(0, 2) * 10 + between(2, 6);
        ask("zone", random.nextBoolean() ? one : other, other, levels, about(0, 500), about(500, 1000), about(1, 100));
    }

    private void lookAtSights() {
        int kind = random.nextInt(20);
        if (kind == 0) {
            ask("clear");
        } else if (kind < 4) {
            wind(between(1, 6), upTo(3));
        } else if (kind < 9) {
            ask("sight", aboutNow(2, 30), about(0, 23), about(0, 23));
        } else if (kind < 13 && !mirror.sights.isEmpty()) {
            int[] last = mirror.sights.get(mirror.sights.size() - 1);
            ask("sight", last[0] + between(1, 9), seenNear(last[1]), seenNear(last[2]));
        } else if (kind < 14) {
            sightsOfFlight();
        } else if (kind < 17) {
            ask("ways");
        } else {
            ask("way", about(0, 20));
        }
    }

    private int seenNear(int v) {
        return Math.max(0, Math.min(23, v + between(-3, 3)));
    }

    /** Sights that do lie on a way. */
    private void sightsOfFlight() {
        ask("clear");
        int x = upTo(23);
        int y = upTo(23);
        int level = between(1, 6);
        int from = Math.min(mirror.hour, 999);
        ask("sight", from, x, y);
        int span = random.nextInt(4) == 0 ? 40 : between(1, 12);
        for (int h = from; h < Math.min(from + span, 999); h++) {
            level = Math.max(1, Math.min(6, level + between(-1, 1)));
            int[] w = mirror.trueWind(level, Mirror.area(x, y), h);
            if (!Mirror.in(x + w[0], 0, 23) || !Mirror.in(y + w[1], 0, 23)) {
                break;
            }
            x += w[0];
            y += w[1];
            if (random.nextInt(5) == 0 || h == from + span - 1) {
                ask("sight", h + 1, x, y);
            }
        }
        ask("ways");
        for (int k = -1; k < 6; k++) {
            ask("way", k);
        }
        ask("way", span - 1);
        ask("way", span);
    }

    private void lookAtLog() {
        int kind = random.nextInt(20);
        if (kind < 2) {
            ask("unlog");
        } else if (kind < 4) {
            ask("log", about(0, 10000), about(0, 500));
        } else if (kind < 6) {
            ask("unlog");
            int gas = random.nextBoolean() ? upTo(200) : upTo(10000);
            int leak = upTo(100);
            int error = random.nextBoolean() ? upTo(3) : upTo(100);
            for (int i = between(1, 31); i > 0; i--) {
                ask("log", Math.max(0, Math.min(10000, gas + between(-error, error))), error);
                gas = Mirror.leaked(gas, leak);
            }
        } else {
            ask("leaks", random.nextInt(15) == 0 ? about(0, 2) : upTo(2));
        }
    }

    private void giveOrders() {
        String text = rules(between(1, random.nextInt(6) == 0 ? 14 : 4));
        if (random.nextInt(3) == 0) {
            text = spoil(text);
        }
        if (text.length() > 300) {
            text = text.substring(0, 300);
        }
        for (int from = 0; from < text.length(); from += 20) {
            int[] n = new int[5];
            for (int i = 0; i < 20; i++) {
                int c = from + i < text.length() ? text.charAt(from + i) & 255 : 0;
                n[i / 4] = n[i / 4] << 8 | c;
            }
            ask("feed", n[0], n[1], n[2], n[3], n[4]);
        }
        if (random.nextInt(20) == 0) {
            ask("feed", random.nextInt(), random.nextInt(), 0, -1, Integer.MIN_VALUE);
        }
        ask("orders", someBalloon(), random.nextInt(25) == 0 ? about(0, 300) : text.length());
        ask("fault");
        if (random.nextInt(3) == 0) {
            ask("hours", between(0, 2));
            ask("track", someBalloon(), mirror.hour - 1, between(5, 6));
        }
    }

    private String gap() {
        return random.nextInt(3) == 0 ? "  ".substring(random.nextInt(2)) : "";
    }

    private String spoil(String text) {
        StringBuilder b = new StringBuilder(text);
        String signs = "()[]<>=+-*/,:; ax09H{\u00e9";
        for (int i = between(1, 2); i > 0 && b.length() > 0; i--) {
            int at = random.nextInt(b.length());
            switch (random.nextInt(4)) {
                case 0 -> b.deleteCharAt(at);
                case 1 -> b.setCharAt(at, signs.charAt(random.nextInt(signs.length())));
                case 2 -> b.insert(at, signs.charAt(random.nextInt(signs.length())));
                default -> b.setLength(at);
            }
        }
        return b.toString();
    }

    private String rules(int n) {
        StringBuilder b = new StringBuilder();
        for (int i = 0; i < n; i++) {
            boolean alone = random.nextInt(n > 8 ? 2 : 8) == 0;
            b.append(gap());
            if (!alone) {
                b.append("if ").append(claim(random.nextInt(4))).append(gap()).append(":").append(gap());
            }
            switch (random.nextInt(8)) {
                case 0 -> b.append("land");
                case 1, 2 -> b.append("hold");
                case 3, 4, 5 -> b.append("drop ").append(value(2));
                default -> b.append("valve ").append(value(2));
            }
            b.append(gap()).append(";");
        }
        return b.append(gap()).toString();
    }

    private String claim(int depth) {
        int kind = random.nextInt(depth > 0 ? 8 : 3);
        switch (kind) {
            case 3: return claim(depth - 1) + " or " + claim(depth - 1);
            case 4: return claim(depth - 1) + " and " + claim(depth - 1);
            case 5: return "not " + (random.nextInt(4) == 0 ? "not not not not not not not " : "") + "[" + claim(depth - 1) + "]";
            case 6: return "[" + gap() + claim(depth - 1) + gap() + "]";
            case 7: return "not " + claim(depth - 1);
            default: return value(2) + gap() + "<>=".charAt(random.nextInt(3)) + gap() + value(2);
        }
    }

    private String value(int depth) {
        int kind = random.nextInt(depth > 0 ? 12 : 4);
        switch (kind) {
            case 0: case 1: return Integer.toString(upTo(random.nextInt(3) == 0 ? 10010 : 30));
            case 4: case 5: return value(depth - 1) + gap() + "+-".charAt(random.nextInt(2)) + gap() + value(depth - 1);
            case 6: case 7: return value(depth - 1) + gap() + "*/".charAt(random.nextInt(2)) + gap() + value(depth - 1);
            case 8: return "(" + (random.nextInt(10) == 0 ? "(((((((1)))))))*" : "") + value(depth - 1) + ")";
            case 9: return (random.nextBoolean() ? "least" : "most") + gap() + "(" + value(depth - 1) + "," + value(depth - 1) + ")";
            default:
                String[] names = {"level", "hour", "sun", "cloud", "bags", "gas", "lift", "load", "x", "y"};
                return names[random.nextInt(names.length)];
        }
    }

    public static void main(String[] args) {
        int runs = args.length > 0 ? Integer.parseInt(args[0]) : RUNS;
        for (int run = 0; run < runs; run++) {
            new MirrorTest(run).go();
        }
        Check.end();
    }
}
