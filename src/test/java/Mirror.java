import java.math.BigInteger;
import java.util.ArrayList;
import java.util.Arrays;
import java.util.HashMap;
import java.util.HashSet;
import java.util.List;
import java.util.Map;
import java.util.Set;

/** The document once more, in its plainest form: all that may be tried is tried. */
final class Mirror {
    static final int NONE = -1;
    static final int NOTHING = -1000000;
    static final int[] DENSITY = {100, 92, 84, 77, 70, 64, 58};

    int hour = 0;
    final Map<String, int[]> winds = new HashMap<>();
    final Set<String> foundWinds = new HashSet<>();
    final Set<Integer> clouds = new HashSet<>();
    final List<int[]> forecasts = new ArrayList<>();
    final List<Flier> fliers = new ArrayList<>();
    final List<int[]> cylinders = new ArrayList<>();
    final List<int[]> zones = new ArrayList<>();
    final List<int[]> sights = new ArrayList<>();
    final List<int[]> logged = new ArrayList<>();
    final StringBuilder tape = new StringBuilder();
    int faultPlace = NONE;

    static final class Flier implements Cloneable {
        int volume, net, gas, purity, bags, leak, taken, state, x, y, level, points, flown, ended, startX, startY;
        boolean entered;
        int[] told;
        List<OrderText.Rule> rules = new ArrayList<>();
        Map<Integer, int[]> rows = new HashMap<>();

        Flier twin() {
            try {
                return (Flier) clone();
            } catch (CloneNotSupportedException e) {
                throw new AssertionError(e);
            }
        }

        int load() {
            return net + 5 * bags;
        }
    }

    static void need(boolean holds) {
        if (!holds) {
            throw new IllegalArgumentException();
        }
    }

    Flier flier(int i) {
        if (i < 0 || i >= fliers.size()) {
            throw new IndexOutOfBoundsException();
        }
        return fliers.get(i);
    }

    static boolean in(long v, long a, long b) {
        return a <= v && v <= b;
    }

    static boolean sun(int h) {
        int left = h % 24;
        return left >= 6 && left <= 17;
    }

    int warmed(int gas, int h) {
        if (!sun(h)) {
            return gas;
        }
        return gas + gas * (clouds.contains(h) ? 20 : 60) / 1000;
    }

    int lift(Flier f, int level, int h) {
        return (int) ((long) warmed(f.gas, h) * f.purity * DENSITY[level] / 10000);
    }

    static int area(int x, int y) {
        return x / 12 + 2 * (y / 12);
    }

    static void needAir(int level, int area, long from, long hours, int x, int y) {
        need(in(level, 1, 6) && in(area, 0, 3) && in(from, 0, 999) && hours >= 1 && from + hours <= 1000);
        need(in(x, -3, 3) && in(y, -3, 3));
    }

    static String key(int level, int area, int h) {
        return level + "/" + area + "/" + h;
    }

    int[] trueWind(int level, int area, int h) {
        return winds.getOrDefault(key(level, area, h), new int[] {0, 0});
    }

    int wind(int level, int area, int from, int hours, int x, int y) {
        needAir(level, area, from, hours, x, y);
        if (from < hour) {
            return -1;
        }
        for (int h = from; h < from + hours; h++) {
            winds.put(key(level, area, h), new int[] {x, y});
        }
        return 1;
    }

    int forecast(int level, int area, int from, int hours, int x, int y) {
        needAir(level, area, from, hours, x, y);
        if (forecasts.size() == 100) {
            return -1;
        }
        forecasts.add(new int[] {level, area, from, hours, x, y, hour});
        return forecasts.size();
    }

    int[] forecastWind(int level, int area, int h, int known) {
        int[] last = {0, 0};
        for (int[] f : forecasts) {
            if (f[0] == level && f[1] == area && h >= f[2] && h < f[2] + f[3] && f[6] <= known) {
                last = new int[] {f[4], f[5]};
            }
        }
        return last;
    }

    int told(int level, int area, int h, int known) {
        needAir(level, area, h, 1, 0, 0);
        int[] w = forecastWind(level, area, h, known);
        return 10 * (w[0] + 3) + w[1] + 3;
    }

    int found(int level, int area, int h) {
        needAir(level, area, h, 1, 0, 0);
        int[] w = trueWind(level, area, h);
        return foundWinds.contains(key(level, area, h)) ? 10 * (w[0] + 3) + w[1] + 3 : NONE;
    }

    int cloud(int from, int hours, boolean is) {
        needAir(1, 0, from, hours, 0, 0);
        for (int h = from; h < from + hours; h++) {
            if (is) {
                clouds.add(h);
            } else {
                clouds.remove(h);
            }
        }
        return 1;
    }

    int balloon(int volume, int net) {
        need(in(volume, 100, 5000) && in(net, 10, 1000));
        if (fliers.size() == 6) {
            throw new IllegalStateException();
        }
        Flier f = new Flier();
        f.volume = volume;
        f.net = net;
        fliers.add(f);
        return fliers.size() - 1;
    }

    int cylinder(int amount, int purity, int price) {
        need(in(amount, 1, 1000) && in(purity, 1, 100) && in(price, 0, 1000));
        if (cylinders.size() == 10) {
            return -1;
        }
        cylinders.add(new int[] {amount, purity, price, 1});
        return cylinders.size() - 1;
    }

    /** Price, bits, amount, purity. */
    int[] bestFill(int amount, int purity) {
        int[] best = null;
        for (int set = 1; set < 1 << cylinders.size(); set++) {
            int all = 0, pure = 0, price = 0;
            boolean there = true;
            for (int i = 0; i < cylinders.size(); i++) {
                if ((set >> i & 1) == 1) {
                    int[] c = cylinders.get(i);
                    there &= c[3] == 1;
                    all += c[0];
                    pure += c[0] * c[1];
                    price += c[2];
                }
            }
            if (!there || all < amount || pure / all < purity) {
                continue;
            }
            boolean first = best != null && (Integer.lowestOneBit(set ^ best[1]) & set) != 0;
            if (best == null || price < best[0] || price == best[0] && first) {
                best = new int[] {price, set, all, pure / all};
            }
        }
        return best;
    }

    int fillable(int amount, int purity, int what) {
        need(in(amount, 1, 10000) && in(purity, 1, 100) && in(what, 0, 3));
        int[] best = bestFill(amount, purity);
        return best == null ? NONE : best[what];
    }

    int fill(int balloon, int amount, int purity) {
        Flier f = flier(balloon);
        need(in(amount, 1, 10000) && in(purity, 1, 100));
        if (f.state != 0) {
            return -1;
        }
        int[] best = bestFill(amount, purity);
        if (best == null) {
            return -2;
        }
        for (int i = 0; i < cylinders.size(); i++) {
            if ((best[1] >> i & 1) == 1) {
                cylinders.get(i)[3] = 0;
            }
        }
        f.gas = Math.min(f.volume, best[2]);
        f.purity = best[3];
        return best[0];
    }

    int set(int balloon, int what, int v) {
        Flier f = flier(balloon);
        need(in(what, 0, 2) && in(v, 0, what == 0 ? 40 : 100));
        if (!(f.state == 0 || f.state == 1 && what > 0)) {
            return -1000;
        }
        int was = what == 0 ? f.bags : what == 1 ? f.leak : f.taken;
        switch (what) {
            case 0 -> f.bags = v;
            case 1 -> f.leak = v;
            default -> f.taken = v;
        }
        return was;
    }

    int inspect(int balloon) {
        Flier f = flier(balloon);
        if (f.state == 1) {
            return -1;
        }
        int was = f.flown;
        f.flown = 0;
        return was;
    }

    int start(int balloon, int x, int y) {
        Flier f = flier(balloon);
        need(in(x, 0, 23) && in(y, 0, 23));
        if (f.state != 0) {
            return -1;
        }
        if (f.flown >= 100) {
            return -2;
        }
        if (lift(f, 0, Math.min(hour, 999)) < f.load()) {
            return -3;
        }
        f.state = 1;
        f.x = f.startX = x;
        f.y = f.startY = y;
        f.level = 0;
        return 1;
    }

    int home(int balloon) {
        Flier f = flier(balloon);
        if (f.state < 2) {
            return -1;
        }
        f.state = f.level = f.gas = f.bags = f.points = 0;
        f.entered = false;
        f.rows = new HashMap<>();
        return 1;
    }

    int feed(int a, int b, int c, int d, int e) {
        if (tape.length() + 20 > 300) {
            return NONE;
        }
        for (int n : new int[] {a, b, c, d, e}) {
            for (int i = 3; i >= 0; i--) {
                tape.append((char) (n >> 8 * i & 255));
            }
        }
        return tape.length();
    }

    int orders(int balloon, int n) {
        Flier f = flier(balloon);
        need(in(n, 0, tape.length()));
        String text = tape.substring(0, n);
        tape.setLength(0);
        try {
            f.rules = new OrderText(text).rules();
            faultPlace = NONE;
            return f.rules.size();
        } catch (OrderText.Fault fault) {
            faultPlace = fault.place;
            return fault.kind - 10;
        }
    }

    int fault() {
        return faultPlace;
    }

    int act(int balloon, int act, int much) {
        Flier f = flier(balloon);
        need(in(act, 0, 3) && in(much, 0, 1000));
        if (f.state != 1) {
            return -1;
        }
        f.told = new int[] {act, much};
        return 1;
    }

    int hours(int n) {
        need(in(n, 0, 100));
        if (hour + n > 1000) {
            throw new IllegalStateException();
        }
        for (int i = 0; i < n; i++) {
            for (Flier f : fliers) {
                if (f.state == 1) {
                    trueHour(f);
                }
            }
            hour++;
        }
        return hour;
    }

    void trueHour(Flier f) {
        int[] act = f.told != null ? f.told : byOrders(f);
        f.told = null;
        int done = doAct(f, act[0], act[1]);
        settle(f, f.leak, hour);
        if (f.state == 1) {
            foundWinds.add(key(f.level, area(f.x, f.y), hour));
            drift(f, trueWind(f.level, area(f.x, f.y), hour));
        }
        if (f.state != 2) {
            for (int[] z : zones) {
                boolean within = in(f.x, z[0], z[2]) && in(f.y, z[1], z[3]) && in(f.level, z[4], z[5]) && in(hour, z[6], z[7]);
                f.points += within ? z[8] : 0;
            }
        }
        f.flown++;
        if (f.state != 1) {
            f.ended = hour;
        }
        f.rows.put(hour, new int[] {f.x, f.y, f.level, f.gas, f.bags, act[0], done});
    }

    int[] byOrders(Flier f) {
        Map<String, Integer> values = new HashMap<>();
        values.put("level", f.level);
        values.put("hour", hour);
        values.put("sun", sun(hour) ? 1 : 0);
        values.put("cloud", clouds.contains(hour) ? 1 : 0);
        values.put("bags", f.bags);
        values.put("gas", f.gas);
        values.put("lift", lift(f, f.level, hour));
        values.put("load", f.load());
        values.put("x", f.x);
        values.put("y", f.y);
        for (OrderText.Rule r : f.rules) {
            if (r.when == null || r.when.of(values) != 0) {
                int much = r.much == null ? 0 : r.much.of(values);
                return new int[] {r.act, Math.max(0, Math.min(1000, much))};
            }
        }
        return new int[] {0, 0};
    }

    static int doAct(Flier f, int act, int much) {
        int done = 0;
        if (act == 1) {
            done = Math.min(f.bags, much);
            f.bags -= done;
        } else if (act >= 2) {
            done = act == 2 ? Math.min(f.gas, much) : f.gas / 2;
            f.gas -= done;
        }
        return done;
    }

    void settle(Flier f, int leak, int h) {
        f.gas = leaked(f.gas, leak);
        while (warmed(f.gas, h) > f.volume) {
            f.gas--;
        }
        if (lift(f, f.level, h) < f.load()) {
            f.level = Math.max(0, f.level - 1);
        } else if (f.level < 6 && lift(f, f.level + 1, h) >= f.load()) {
            f.level++;
        }
        if (f.level == 0) {
            f.state = 2;
        }
    }

    static int leaked(int gas, int leak) {
        return leak == 0 || gas == 0 ? gas : gas - gas * leak / 1000 - 1;
    }

    static void drift(Flier f, int[] w) {
        if (in(f.x + w[0], 0, 23) && in(f.y + w[1], 0, 23)) {
            f.x += w[0];
            f.y += w[1];
        } else {
            f.state = 3;
        }
    }

    int of(int balloon, int what) {
        Flier f = flier(balloon);
        need(in(what, 0, 10));
        boolean away = f.state != 0;
        return new int[] {f.state, away ? f.x : NONE, away ? f.y : NONE, f.level, f.gas, f.purity, f.bags, f.load(),
            lift(f, f.level, Math.min(hour, 999)), f.points, f.flown}[what];
    }

    int track(int balloon, int h, int what) {
        Flier f = flier(balloon);
        need(in(what, 0, 6));
        return f.rows.containsKey(h) ? f.rows.get(h)[what] : NOTHING;
    }

    int plan(int balloon, int n, int x, int y, int what) {
        Flier f = flier(balloon);
        need(in(n, 1, 6) && in(x, 0, 23) && in(y, 0, 23) && in(what, -2, n - 1));
        if (f.state != 1 || hour + n > 1000) {
            return NOTHING;
        }
        int rows = (int) Math.round(Math.pow(3, n));
        int[] best = null;
        for (int row = 0; row < rows; row++) {
            int[] acts = new int[n];
            for (int i = n - 1, r = row; i >= 0; i--, r /= 3) {
                acts[i] = r % 3;
            }
            Flier twin = flyPlanned(f, acts);
            if (twin == null) {
                continue;
            }
            int way = (twin.x - x) * (twin.x - x) + (twin.y - y) * (twin.y - y);
            if (best == null || way < best[0] || way == best[0] && twin.bags > best[1]) {
                best = new int[2 + n];
                best[0] = way;
                best[1] = twin.bags;
                System.arraycopy(acts, 0, best, 2, n);
            }
        }
        return what == -1 ? best[0] : what == -2 ? best[1] : best[2 + what];
    }

    /** Null if the row has an act that may not stand in it. */
    Flier flyPlanned(Flier f, int[] acts) {
        Flier twin = f.twin();
        for (int i = 0; i < acts.length; i++) {
            boolean may = acts[i] == 0 || twin.state == 1 && (acts[i] == 1 ? twin.bags : twin.gas) > 0;
            if (!may) {
                return null;
            }
            if (twin.state == 1) {
                doAct(twin, acts[i], acts[i] == 1 ? 1 : 20);
                settle(twin, twin.taken, hour + i);
                if (twin.state == 1) {
                    drift(twin, forecastWind(twin.level, area(twin.x, twin.y), hour + i, hour));
                }
            }
        }
        return twin;
    }

    int zone(int one, int other, int levels, int from, int to, int points) {
        need(in(one, 0, 575) && in(other, 0, 575) && levels >= 0 && in(levels / 10, 0, 6) && in(levels % 10, 0, 6));
        need(levels / 10 <= levels % 10 && in(from, 0, 1000) && in(to, 0, 1000) && from <= to && in(points, 1, 100));
        if (zones.size() == 10) {
            return -1;
        }
        int ax = one % 24, ay = one / 24, bx = other % 24, by = other / 24;
        zones.add(new int[] {Math.min(ax, bx), Math.min(ay, by), Math.max(ax, bx), Math.max(ay, by),
            levels / 10, levels % 10, from, to, points});
        return zones.size() - 1;
    }

    int sight(int h, int x, int y) {
        need(in(h, 0, 999) && in(x, 0, 23) && in(y, 0, 23));
        if (sights.size() == 12) {
            return -1;
        }
        if (!sights.isEmpty() && (h <= sights.get(sights.size() - 1)[0] || h - sights.get(0)[0] > 40)) {
            return -2;
        }
        sights.add(new int[] {h, x, y});
        return sights.size();
    }

    int clear() {
        int were = sights.size();
        sights.clear();
        return were;
    }

    boolean seenRight(int h, int x, int y) {
        for (int[] s : sights) {
            if (s[0] == h && (s[1] != x || s[2] != y)) {
                return false;
            }
        }
        return true;
    }

    int ways() {
        if (sights.size() < 2) {
            return 0;
        }
        BigInteger all = waysFrom(sights.get(0)[0], sights.get(0)[1], sights.get(0)[2], 0, new HashMap<>());
        return all.min(BigInteger.valueOf(1000000000)).intValue();
    }

    /** Level 0: none was flown at yet. */
    BigInteger waysFrom(int h, int x, int y, int level, Map<String, BigInteger> known) {
        if (!in(x, 0, 23) || !in(y, 0, 23) || !seenRight(h, x, y)) {
            return BigInteger.ZERO;
        }
        if (h == sights.get(sights.size() - 1)[0]) {
            return BigInteger.ONE;
        }
        String key = h + "/" + x + "/" + y + "/" + level;
        if (known.containsKey(key)) {
            return known.get(key);
        }
        BigInteger all = BigInteger.ZERO;
        for (int next = 1; next <= 6; next++) {
            if (level == 0 || Math.abs(next - level) <= 1) {
                int[] w = trueWind(next, area(x, y), h);
                all = all.add(waysFrom(h + 1, x + w[0], y + w[1], next, known));
            }
        }
        known.put(key, all);
        return all;
    }

    int way(int k) {
        if (ways() == 0) {
            return NONE;
        }
        List<Integer> first = new ArrayList<>();
        Map<String, BigInteger> known = new HashMap<>();
        int[] s = sights.get(0);
        int x = s[1], y = s[2], level = 0;
        for (int h = s[0]; h < sights.get(sights.size() - 1)[0]; h++) {
            for (int next = 1; next <= 6; next++) {
                if (level != 0 && Math.abs(next - level) > 1) {
                    continue;
                }
                int[] w = trueWind(next, area(x, y), h);
                if (waysFrom(h + 1, x + w[0], y + w[1], next, known).signum() > 0) {
                    x += w[0];
                    y += w[1];
                    level = next;
                    first.add(next);
                    break;
                }
            }
        }
        return k >= 0 && k < first.size() ? first.get(k) : NONE;
    }

    int log(int amount, int error) {
        need(in(amount, 0, 10000) && in(error, 0, 500));
        if (logged.size() == 30) {
            return -1;
        }
        logged.add(new int[] {amount, error});
        return logged.size();
    }

    int unlog() {
        int were = logged.size();
        logged.clear();
        return were;
    }

    int leaks(int what) {
        need(in(what, 0, 2));
        List<Integer> fitting = new ArrayList<>();
        for (int leak = 0; leak <= 100 && !logged.isEmpty(); leak++) {
            int[] first = logged.get(0);
            boolean fits = false;
            for (int gas = Math.max(0, first[0] - first[1]); gas <= first[0] + first[1] && !fits; gas++) {
                fits = true;
                int now = gas;
                for (int i = 1; i < logged.size() && fits; i++) {
                    now = leaked(now, leak);
                    fits = Math.abs(now - logged.get(i)[0]) <= logged.get(i)[1];
                }
            }
            if (fits) {
                fitting.add(leak);
            }
        }
        if (what == 0) {
            return fitting.size();
        }
        if (fitting.isEmpty()) {
            return NONE;
        }
        return fitting.get(what == 1 ? 0 : fitting.size() - 1);
    }

    int enter(int balloon) {
        Flier f = flier(balloon);
        if (f.state != 0 || f.entered) {
            return -1;
        }
        f.entered = true;
        return 1;
    }

    int result(int balloon) {
        Flier f = flier(balloon);
        if (!f.entered || f.state < 2) {
            return NOTHING;
        }
        int dx = f.x - f.startX, dy = f.y - f.startY;
        return BigInteger.valueOf(100L * (dx * dx + dy * dy)).sqrt().intValue() - f.points;
    }

    int ranked(int h, int k) {
        List<Integer> known = new ArrayList<>();
        for (int i = 0; i < fliers.size(); i++) {
            if (result(i) != NOTHING && fliers.get(i).ended + 3 <= h) {
                known.add(i);
            }
        }
        known.sort((a, b) -> result(a) != result(b) ? Integer.compare(result(b), result(a)) : Integer.compare(a, b));
        return k >= 0 && k < known.size() ? known.get(k) : NONE;
    }

    int count(int what) {
        int left = 0, flying = 0;
        for (int[] c : cylinders) {
            left += c[3];
        }
        for (Flier f : fliers) {
            flying += f.state == 1 ? 1 : 0;
        }
        int[] counts = {hour, fliers.size(), left, forecasts.size(), zones.size(), sights.size(), logged.size(), flying,
            tape.length(), foundWinds.size()};
        return in(what, 0, 9) ? counts[what] : NONE;
    }
}
