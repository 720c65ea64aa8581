import java.util.Arrays;

/** A balloon house, as ../shared/DOC.md promises it. README.md tells how to use it. */
public final class BalloonHouse {
    public static final int NONE = -1;
    public static final int NOTHING = -1000000;

    private static final int REFUSED = -1;

    private static final int SIDE = 24;
    private static final int SQUARES = 576;
    private static final int AREA_SIDE = 12;
    private static final int AREAS = 4;
    // Squares of a row as bits of x: the western half, and all.
    private static final int HALF_ROW = 4095;
    private static final int WHOLE_ROW = 16777215;
    private static final int TOP_LEVEL = 6;
    private static final int HOURS = 1000;
    private static final int DAY = 24;
    private static final int SUNRISE = 6;
    private static final int SUNSET = 18;

    private static final int SLOTS = 24;
    private static final int FARTHEST_PULL = 3;
    private static final int CALM = 33;

    private static final int HOME = 0;
    private static final int FLYING = 1;
    private static final int LANDED = 2;
    private static final int LEFT = 3;

    private static final int HOLD = 0;
    private static final int DROP = 1;
    private static final int VALVE = 2;
    private static final int LAND = 3;

    private static final int MOST_BALLOONS = 6;
    private static final int MOST_BAGS = 40;
    private static final int MOST_LEAK = 100;
    private static final int MOST_MUCH = 1000;
    private static final int BAG_WEIGHT = 5;
    private static final int HOURS_TO_INSPECTION = 100;
    private static final int NOT_SO = -1000;
    private static final int[] DENSITY = {100, 92, 84, 77, 70, 64, 58};

    private static final int MOST_CYLINDERS = 10;
    private static final int MOST_FORECASTS = 100;
    private static final int MOST_ZONES = 10;
    private static final int MOST_SIGHTS = 12;
    private static final int LONGEST_WAY = 40;
    private static final int MOST_WAYS = 1000000000;
    private static final int MOST_LOGGED = 30;
    private static final int LONGEST_PLAN = 6;
    private static final int PLANNED_VALVE = 20;
    private static final int HOURS_TO_KNOWN = 3;
    private static final int FARTHEST_TENFOLD = 325;

    private static final int TRACK_COLUMNS = 7;
    private static final int TAPE_BYTES = 300;
    private static final int MOST_RULES = 12;
    private static final int MOST_OPEN = 8;
    private static final int MOST_NUMBER = 9999;

    private static final int FAULT_PLACE = 1;
    private static final int FAULT_NUMBER = 2;
    private static final int FAULT_LIMIT = 3;

    // A sign's kind is its byte; words, numbers and the end have kinds that no byte has.
    private static final String WORDS =
        "hold drop valve land if or and not least most level hour sun cloud bags gas lift load x y ";
    private static final int WORD_HOLD = 256;
    private static final int WORD_DROP = 257;
    private static final int WORD_VALVE = 258;
    private static final int WORD_LAND = 259;
    private static final int WORD_IF = 260;
    private static final int WORD_OR = 261;
    private static final int WORD_AND = 262;
    private static final int WORD_NOT = 263;
    private static final int WORD_LEAST = 264;
    private static final int WORD_MOST = 265;
    private static final int WORD_LEVEL = 266;
    private static final int WORD_Y = 275;
    private static final int NO_WORD = 300;
    private static final int NUMBER = 301;
    private static final int END = 302;
    private static final int FACTS = 10;

    private int hour = 0;
    private final Sky sky = new Sky();
    private final Store store = new Store();
    private final Balloon[] balloons = new Balloon[MOST_BALLOONS];
    private int balloonCount = 0;
    private final Zone[] zones = new Zone[MOST_ZONES];
    private int zoneCount = 0;
    private final Sightings sightings = new Sightings();
    private final GasLog gasLog = new GasLog();
    private final Planner planner = new Planner();
    private final int[] tape = new int[TAPE_BYTES];
    private int tapeLength = 0;
    private final Reader reader = new Reader();
    private int faultPlace = NONE;
    private final int[] facts = new int[FACTS];

    public BalloonHouse() {
    }

    // ---- winds, forecasts, cloud ----

    public int wind(int level, int area, int from, int hours, int x, int y) throws IllegalArgumentException {
        require(isAir(level, area) && areHours(from, hours) && arePulls(x, y));
        if (from < hour) {
            return REFUSED;
        }
        sky.blow(slotOf(level, area), from, hours, windOf(x, y));
        sightings.forgetWays();
        return 1;
    }

    public int forecast(int level, int area, int from, int hours, int x, int y) throws IllegalArgumentException {
        require(isAir(level, area) && areHours(from, hours) && arePulls(x, y));
        return sky.tell(new Forecast(hour, slotOf(level, area), from, hours, windOf(x, y)));
    }

    public int told(int level, int area, int hour, int known) throws IllegalArgumentException {
        require(isAir(level, area) && isHour(hour));
        return sky.toldWind(slotOf(level, area), hour, known);
    }

    public int found(int level, int area, int hour) throws IllegalArgumentException {
        require(isAir(level, area) && isHour(hour));
        int slot = slotOf(level, area);
        return sky.isFound(slot, hour) ? sky.trueWind(slot, hour) : NONE;
    }

    public int cloud(int from, int hours, boolean is) throws IllegalArgumentException {
        require(areHours(from, hours));
        sky.cover(from, hours, is);
        return 1;
    }

    // ---- balloons and their gas ----

    public int balloon(int volume, int net) throws IllegalArgumentException, IllegalStateException {
        require(isWithin(volume, 100, 5000) && isWithin(net, 10, 1000));
        if (balloonCount >= MOST_BALLOONS) {
            throw new IllegalStateException("there are 6 balloons");
        }
        balloons[balloonCount] = new Balloon(volume, net);
        balloonCount++;
        return balloonCount - 1;
    }

    public int cylinder(int amount, int purity, int price) throws IllegalArgumentException {
        require(isWithin(amount, 1, 1000) && isWithin(purity, 1, 100) && isWithin(price, 0, 1000));
        return store.keep(amount, purity, price);
    }

    public int fillable(int amount, int purity, int what) throws IllegalArgumentException {
        requireFill(amount, purity);
        require(isWithin(what, 0, 3));
        if (!store.choose(amount, purity)) {
            return NONE;
        }
        switch (what) {
            case 0: return store.bestPrice;
            case 1: return store.bestSet;
            case 2: return store.bestAmount;
            default: return store.bestPurity;
        }
    }

    public int fill(int balloon, int amount, int purity) throws IndexOutOfBoundsException, IllegalArgumentException {
        Balloon filled = balloonAt(balloon);
        requireFill(amount, purity);
        if (filled.craft.state != HOME) {
            return REFUSED;
        }
        if (!store.choose(amount, purity)) {
            return -2;
        }
        store.empty(store.bestSet);
        filled.craft.gas = Math.min(store.bestAmount, filled.craft.volume);
        filled.craft.purity = store.bestPurity;
        return store.bestPrice;
    }

    public int set(int balloon, int what, int v) throws IndexOutOfBoundsException, IllegalArgumentException {
        Balloon changed = balloonAt(balloon);
        require(isWithin(what, 0, 2) && isWithin(v, 0, what == 0 ? MOST_BAGS : MOST_LEAK));
        int state = changed.craft.state;
        if (state != HOME && (what == 0 || state != FLYING)) {
            return NOT_SO;
        }
        int was;
        if (what == 0) {
            was = changed.craft.bags;
            changed.craft.bags = v;
        } else if (what == 1) {
            was = changed.trueLeak;
            changed.trueLeak = v;
        } else {
            was = changed.takenLeak;
            changed.takenLeak = v;
        }
        return was;
    }

    public int inspect(int balloon) throws IndexOutOfBoundsException {
        Balloon seen = balloonAt(balloon);
        if (seen.craft.state == FLYING) {
            return REFUSED;
        }
        int flown = seen.flown;
        seen.flown = 0;
        return flown;
    }

    public int start(int balloon, int x, int y) throws IndexOutOfBoundsException, IllegalArgumentException {
        Balloon starting = balloonAt(balloon);
        require(isSquare(x, y));
        if (starting.craft.state != HOME) {
            return REFUSED;
        }
        if (starting.flown >= HOURS_TO_INSPECTION) {
            return -2;
        }
        if (starting.craft.liftAt(0, sky.warmth(comingHour())) < starting.craft.load()) {
            return -3;
        }
        starting.takeOff(x, y, hour);
        return 1;
    }

    public int home(int balloon) throws IndexOutOfBoundsException {
        Balloon back = balloonAt(balloon);
        if (!back.hasEnded()) {
            return REFUSED;
        }
        back.bringHome();
        return 1;
    }

    // ---- orders ----

    public int feed(int a, int b, int c, int d, int e) {
        if (tapeLength + 20 > TAPE_BYTES) {
            return NONE;
        }
        putOnTape(a);
        putOnTape(b);
        putOnTape(c);
        putOnTape(d);
        putOnTape(e);
        return tapeLength;
    }

    public int orders(int balloon, int n) throws IndexOutOfBoundsException, IllegalArgumentException {
        Balloon ordered = balloonAt(balloon);
        require(isWithin(n, 0, tapeLength));
        tapeLength = 0;
        int fault = reader.read(tape, n);
        faultPlace = reader.faultPlace;
        if (fault != 0) {
            return fault - 10;
        }
        ordered.orders.take(reader);
        return reader.rules;
    }

    public int fault() {
        return faultPlace;
    }

    // ---- flight ----

    public int act(int balloon, int act, int much) throws IndexOutOfBoundsException, IllegalArgumentException {
        Balloon ordered = balloonAt(balloon);
        require(isWithin(act, HOLD, LAND) && isWithin(much, 0, MOST_MUCH));
        if (ordered.craft.state != FLYING) {
            return REFUSED;
        }
        ordered.toldAct = act;
        ordered.toldMuch = much;
        return 1;
    }

    public int hours(int hours) throws IllegalArgumentException, IllegalStateException {
        require(isWithin(hours, 0, 100));
        if (hour + hours > HOURS) {
            throw new IllegalStateException("the hour would be above 1,000");
        }
        for (int i = 0; i < hours; i++) {
            for (int number = 0; number < balloonCount; number++) {
                if (balloons[number].craft.state == FLYING) {
                    flyHour(balloons[number]);
                }
            }
            hour++;
        }
        return hour;
    }

    public int of(int balloon, int what) throws IndexOutOfBoundsException, IllegalArgumentException {
        Balloon asked = balloonAt(balloon);
        require(isWithin(what, 0, 10));
        Craft craft = asked.craft;
        switch (what) {
            case 0: return craft.state;
            case 1: return craft.state == HOME ? NONE : craft.x;
            case 2: return craft.state == HOME ? NONE : craft.y;
            case 3: return craft.level;
            case 4: return craft.gas;
            case 5: return craft.purity;
            case 6: return craft.bags;
            case 7: return craft.load();
            case 8: return craft.liftAt(craft.level, sky.warmth(comingHour()));
            case 9: return asked.points;
            default: return asked.flown;
        }
    }

    public int track(int balloon, int hour, int what) throws IndexOutOfBoundsException, IllegalArgumentException {
        Balloon asked = balloonAt(balloon);
        require(isWithin(what, 0, TRACK_COLUMNS - 1));
        return asked.trackEntry(hour, what);
    }

    public int plan(int balloon, int n, int x, int y, int what)
            throws IndexOutOfBoundsException, IllegalArgumentException {
        Balloon planned = balloonAt(balloon);
        require(isWithin(n, 1, LONGEST_PLAN) && isSquare(x, y) && isWithin(what, -2, n - 1));
        if (planned.craft.state != FLYING || hour + n > HOURS) {
            return NOTHING;
        }
        planner.prepare(sky, hour, n);
        planner.searchFor(planned, x, y);
        if (what == -1) {
            return planner.bestWay;
        }
        return what == -2 ? planner.bestBags : planner.plannedAct(what);
    }

    public int zone(int one, int other, int levels, int from, int to, int points) throws IllegalArgumentException {
        require(isWithin(one, 0, SQUARES - 1) && isWithin(other, 0, SQUARES - 1) && isWithin(levels, 0, 66));
        int lowest = levels / 10;
        int highest = levels % 10;
        require(lowest <= highest && highest <= TOP_LEVEL);
        require(isWithin(from, 0, HOURS) && isWithin(to, from, HOURS) && isWithin(points, 1, 100));
        if (zoneCount >= MOST_ZONES) {
            return REFUSED;
        }
        Zone added = new Zone(one, other, points);
        added.limit(lowest, highest, from, to);
        zones[zoneCount] = added;
        zoneCount++;
        return zoneCount - 1;
    }

    // ---- sights and ways ----

    public int sight(int hour, int x, int y) throws IllegalArgumentException {
        require(isHour(hour) && isSquare(x, y));
        return sightings.note(hour, x, y);
    }

    public int clear() {
        return sightings.forgetSights();
    }

    public int ways() {
        sightings.findWays(sky);
        return sightings.wayCount;
    }

    public int way(int k) {
        sightings.findWays(sky);
        return sightings.firstWayLevel(k);
    }

    // ---- the gas log ----

    public int log(int amount, int error) throws IllegalArgumentException {
        require(isWithin(amount, 0, 10000) && isWithin(error, 0, 500));
        return gasLog.write(amount, error);
    }

    public int unlog() {
        int were = gasLog.size;
        gasLog.size = 0;
        return were;
    }

    public int leaks(int what) throws IllegalArgumentException {
        require(isWithin(what, 0, 2));
        int fitting = 0;
        int least = NONE;
        int greatest = NONE;
        for (int leak = 0; leak <= MOST_LEAK; leak++) {
            if (gasLog.fits(leak)) {
                fitting++;
                least = least == NONE ? leak : least;
                greatest = leak;
            }
        }
        if (what == 0) {
            return fitting;
        }
        return what == 1 ? least : greatest;
    }

    // ---- the race ----

    public int enter(int balloon) throws IndexOutOfBoundsException {
        Balloon entering = balloonAt(balloon);
        if (entering.craft.state != HOME || entering.entered) {
            return REFUSED;
        }
        entering.entered = true;
        return 1;
    }

    public int result(int balloon) throws IndexOutOfBoundsException {
        return balloonAt(balloon).raceResult();
    }

    public int ranked(int hour, int k) {
        for (int number = 0; number < balloonCount; number++) {
            if (balloons[number].isKnownAt(hour) && countAhead(number, hour) == k) {
                return number;
            }
        }
        return NONE;
    }

    public int count(int what) {
        switch (what) {
            case 0: return hour;
            case 1: return balloonCount;
            case 2: return store.left;
            case 3: return sky.forecastCount;
            case 4: return zoneCount;
            case 5: return sightings.size;
            case 6: return gasLog.size;
            case 7: return countFlying();
            case 8: return tapeLength;
            case 9: return sky.foundCount;
            default: return NONE;
        }
    }

    // ---- what the calls share ----

    private static void require(boolean holds) {
        if (!holds) {
            throw new IllegalArgumentException("an argument is none such");
        }
    }

    private static void requireFill(int amount, int purity) {
        require(isWithin(amount, 1, 10000) && isWithin(purity, 1, 100));
    }

    private Balloon balloonAt(int number) {
        if (number < 0 || number >= balloonCount) {
            throw new IndexOutOfBoundsException("no such balloon");
        }
        return balloons[number];
    }

    /** Hour 1,000 never goes by, so it is looked at as the last hour that does. */
    private int comingHour() {
        return Math.min(hour, HOURS - 1);
    }

    private void putOnTape(int number) {
        for (int shift = 24; shift >= 0; shift -= 8) {
            if (tapeLength < TAPE_BYTES) {
                tape[tapeLength] = (number >>> shift) & 255;
                tapeLength++;
            }
        }
    }

    private void flyHour(Balloon flier) {
        Craft craft = flier.craft;
        int warmth = sky.warmth(hour);
        if (flier.toldAct == NONE) {
            noteFacts(craft, warmth);
            flier.orders.decide(facts);
            flier.toldAct = flier.orders.act;
            flier.toldMuch = flier.orders.much;
        }
        int act = flier.toldAct;
        int done = craft.perform(act, flier.toldMuch);
        flier.toldAct = NONE;
        craft.settle(flier.trueLeak, warmth);
        if (craft.state == FLYING) {
            craft.drift(sky.findWind(slotOf(craft.level, areaOf(craft.x, craft.y)), hour));
        }
        if (craft.state != LANDED) {
            flier.points += pointsAt(craft);
        }
        flier.flown++;
        flier.endHour = hour;
        flier.writeRow(hour, act, done);
    }

    /** In the order of the words from "level" to "y". */
    private void noteFacts(Craft craft, int warmth) {
        facts[0] = craft.level;
        facts[1] = hour;
        facts[2] = isSunny(hour) ? 1 : 0;
        facts[3] = sky.isCloudy(hour) ? 1 : 0;
        facts[4] = craft.bags;
        facts[5] = craft.gas;
        facts[6] = craft.liftAt(craft.level, warmth);
        facts[7] = craft.load();
        facts[8] = craft.x;
        facts[9] = craft.y;
    }

    private int pointsAt(Craft craft) {
        int points = 0;
        for (int i = 0; i < zoneCount; i++) {
            if (zones[i].holds(craft, hour)) {
                points += zones[i].points;
            }
        }
        return points;
    }

    private int countFlying() {
        int flying = 0;
        for (int i = 0; i < balloonCount; i++) {
            if (balloons[i].craft.state == FLYING) {
                flying++;
            }
        }
        return flying;
    }

    private int countAhead(int number, int hour) {
        int mine = balloons[number].raceResult();
        int ahead = 0;
        for (int i = 0; i < balloonCount; i++) {
            if (balloons[i].isKnownAt(hour)) {
                int other = balloons[i].raceResult();
                if (other > mine || (other == mine && i < number)) {
                    ahead++;
                }
            }
        }
        return ahead;
    }

    private static boolean isWithin(int v, int least, int most) {
        return v >= least && v <= most;
    }

    private static boolean isHour(int hour) {
        return hour >= 0 && hour < HOURS;
    }

    private static boolean areHours(int from, int hours) {
        return isHour(from) && isWithin(hours, 1, HOURS - from);
    }

    private static boolean isSquare(int x, int y) {
        return isWithin(x, 0, SIDE - 1) && isWithin(y, 0, SIDE - 1);
    }

    private static boolean isAir(int level, int area) {
        return isWithin(level, 1, TOP_LEVEL) && isWithin(area, 0, AREAS - 1);
    }

    private static boolean arePulls(int x, int y) {
        return isWithin(x, -FARTHEST_PULL, FARTHEST_PULL) && isWithin(y, -FARTHEST_PULL, FARTHEST_PULL);
    }

    private static boolean isSunny(int hour) {
        return isWithin(hour % DAY, SUNRISE, SUNSET - 1);
    }

    private static int areaOf(int x, int y) {
        return x / AREA_SIDE + 2 * (y / AREA_SIDE);
    }

    private static int slotOf(int level, int area) {
        return (level - 1) * AREAS + area;
    }

    /** Winds are held in the form in which told() and found() answer them. */
    private static int windOf(int x, int y) {
        return 10 * (x + FARTHEST_PULL) + y + FARTHEST_PULL;
    }

    private static int pullX(int wind) {
        return wind / 10 - FARTHEST_PULL;
    }

    private static int pullY(int wind) {
        return wind % 10 - FARTHEST_PULL;
    }

    private static int lostByLeak(int gas, int leak) {
        return leak == 0 || gas <= 0 ? 0 : gas * leak / 1000 + 1;
    }

    private static int wayBetween(int dx, int dy) {
        return dx * dx + dy * dy;
    }

    private static boolean isActWord(int kind) {
        return isWithin(kind, WORD_HOLD, WORD_LAND);
    }

    private static boolean takesAmount(int kind) {
        return kind == WORD_DROP || kind == WORD_VALVE;
    }

    private static boolean isValueWord(int kind) {
        return isWithin(kind, WORD_LEVEL, WORD_Y);
    }

    /** A forecast, with the hour at which it was told. */
    private static final class Forecast {
        final int toldAt;
        final int slot;
        final int from;
        final int behind;
        final int wind;

        Forecast(int toldAt, int slot, int from, int hours, int wind) {
            this.toldAt = toldAt;
            this.slot = slot;
            this.from = from;
            this.behind = from + hours;
            this.wind = wind;
        }
    }

    /** True winds, what was found of them, forecasts and cloud. */
    private static final class Sky {
        // Less CALM, so that a new row is calm.
        private final int[] winds = new int[HOURS * SLOTS];
        private final int[] foundSlots = new int[HOURS];
        private final boolean[] clouds = new boolean[HOURS];
        private final Forecast[] forecasts = new Forecast[MOST_FORECASTS];
        int forecastCount = 0;
        int foundCount = 0;

        void blow(int slot, int from, int hours, int wind) {
            for (int i = from; i < from + hours; i++) {
                if (isHour(i) && isWithin(slot, 0, SLOTS - 1)) {
                    winds[i * SLOTS + slot] = wind - CALM;
                }
            }
        }

        int trueWind(int slot, int hour) {
            return isHour(hour) && isWithin(slot, 0, SLOTS - 1) ? winds[hour * SLOTS + slot] + CALM : CALM;
        }

        boolean isFound(int slot, int hour) {
            return isHour(hour) && (foundSlots[hour] >> slot & 1) == 1;
        }

        int findWind(int slot, int hour) {
            if (isHour(hour) && !isFound(slot, hour)) {
                foundSlots[hour] |= 1 << slot;
                foundCount++;
            }
            return trueWind(slot, hour);
        }

        int tell(Forecast forecast) {
            if (forecastCount >= MOST_FORECASTS) {
                return REFUSED;
            }
            forecasts[forecastCount] = forecast;
            forecastCount++;
            return forecastCount;
        }

        int toldWind(int slot, int hour, int known) {
            for (int i = forecastCount - 1; i >= 0; i--) {
                Forecast f = forecasts[i];
                if (f.slot == slot && f.toldAt <= known && hour >= f.from && hour < f.behind) {
                    return f.wind;
                }
            }
            return CALM;
        }

        /** Later forecasts are written over earlier ones, so that the last one told stays. */
        void copyForecasts(int[] row, int from, int hours) {
            Arrays.fill(row, CALM);
            for (int i = 0; i < forecastCount; i++) {
                Forecast f = forecasts[i];
                int behind = Math.min(from + hours, f.behind);
                for (int h = Math.max(from, f.from); h < behind; h++) {
                    int at = (h - from) * SLOTS + f.slot;
                    if (isWithin(at, 0, row.length - 1)) {
                        row[at] = f.wind;
                    }
                }
            }
        }

        void cover(int from, int hours, boolean is) {
            for (int i = from; i < from + hours; i++) {
                if (isHour(i)) {
                    clouds[i] = is;
                }
            }
        }

        boolean isCloudy(int hour) {
            return isHour(hour) && clouds[hour];
        }

        /** The thousandths by which gas is more in an hour. */
        int warmth(int hour) {
            if (!isSunny(hour)) {
                return 0;
            }
            return isCloudy(hour) ? 20 : 60;
        }
    }

    /** The cylinders, and the best set of them for a fill. */
    private static final class Store {
        private final int[] amounts = new int[MOST_CYLINDERS];
        private final int[] purities = new int[MOST_CYLINDERS];
        private final int[] prices = new int[MOST_CYLINDERS];
        private final boolean[] gone = new boolean[MOST_CYLINDERS];
        private int size = 0;
        private int neededAmount = 0;
        private int neededPurity = 0;
        int left = 0;
        int bestSet = 0;
        int bestAmount = 0;
        int bestPurity = 0;
        int bestPrice = 0;

        int keep(int amount, int purity, int price) {
            if (size >= MOST_CYLINDERS) {
                return REFUSED;
            }
            amounts[size] = amount;
            purities[size] = purity;
            prices[size] = price;
            size++;
            left++;
            return size - 1;
        }

        void empty(int set) {
            for (int i = 0; i < size; i++) {
                if ((set >> i & 1) == 1 && !gone[i]) {
                    gone[i] = true;
                    left--;
                }
            }
        }

        boolean choose(int amount, int purity) {
            neededAmount = amount;
            neededPurity = purity;
            bestSet = 0;
            tryFrom(0, 0, 0, 0, 0);
            return bestSet != 0;
        }

        /** Sets with a cylinder come ahead of those without, so the first of one price is met first. */
        private void tryFrom(int i, int set, int amount, int pure, int price) {
            if (bestSet != 0 && price >= bestPrice) {
                return;
            }
            if (i >= size || i >= MOST_CYLINDERS) {
                judge(set, amount, pure, price);
                return;
            }
            if (!gone[i]) {
                tryFrom(i + 1, set | 1 << i, amount + amounts[i], pure + amounts[i] * purities[i], price + prices[i]);
            }
            tryFrom(i + 1, set, amount, pure, price);
        }

        private void judge(int set, int amount, int pure, int price) {
            if (amount < 1 || amount < neededAmount || pure / amount < neededPurity) {
                return;
            }
            bestSet = set;
            bestAmount = amount;
            bestPurity = pure / amount;
            bestPrice = price;
        }
    }

    /** What flies: the part of a balloon that true hours and planned ones change alike. */
    private static final class Craft {
        int volume = 0;
        int net = 0;
        int purity = 0;
        int state = HOME;
        int x = 0;
        int y = 0;
        int level = 0;
        int gas = 0;
        int bags = 0;

        void copy(Craft other) {
            volume = other.volume;
            net = other.net;
            purity = other.purity;
            state = other.state;
            x = other.x;
            y = other.y;
            level = other.level;
            gas = other.gas;
            bags = other.bags;
        }

        int load() {
            return net + BAG_WEIGHT * bags;
        }

        int liftAt(int height, int warmth) {
            if (height < 0 || height > TOP_LEVEL) {
                return 0;
            }
            int warmed = gas + gas * warmth / 1000;
            return warmed * purity * DENSITY[height] / 10000;
        }

        /** Does an act; answers how much of it was done. */
        int perform(int act, int much) {
            if (act == DROP) {
                int dropped = Math.min(much, bags);
                bags -= dropped;
                return dropped;
            }
            int let = 0;
            if (act == VALVE) {
                let = Math.min(much, gas);
            } else if (act == LAND) {
                let = gas / 2;
            }
            gas -= let;
            return let;
        }

        void settle(int leak, int warmth) {
            gas -= lostByLeak(gas, leak);
            gas = Math.min(gas, roomFor(warmth));
            climb(warmth);
        }

        /** The most gas that is not above the volume when warmed: where taking one by one would end. */
        private int roomFor(int warmth) {
            int share = 1000 + warmth;
            return share > 0 ? ((volume + 1) * 1000 - 1) / share : 0;
        }

        private void climb(int warmth) {
            int load = load();
            if (liftAt(level, warmth) < load) {
                level = Math.max(level - 1, 0);
            } else if (level < TOP_LEVEL && liftAt(level + 1, warmth) >= load) {
                level++;
            }
            if (level == 0) {
                state = LANDED;
            }
        }

        void drift(int wind) {
            int toX = x + pullX(wind);
            int toY = y + pullY(wind);
            if (isSquare(toX, toY)) {
                x = toX;
                y = toY;
            } else {
                state = LEFT;
            }
        }
    }

    /** A balloon with all that is kept of it on the ground. */
    private static final class Balloon {
        final Craft craft = new Craft();
        final Orders orders = new Orders();
        int trueLeak = 0;
        int takenLeak = 0;
        int flown = 0;
        int points = 0;
        boolean entered = false;
        int endHour = 0;
        int toldAct = NONE;
        int toldMuch = 0;
        private int startX = 0;
        private int startY = 0;
        private int trackFrom = 0;
        private int trackBehind = 0;
        private final int[] rows = new int[HOURS * TRACK_COLUMNS];

        Balloon(int volume, int net) {
            craft.volume = volume;
            craft.net = net;
        }

        boolean hasEnded() {
            return craft.state == LANDED || craft.state == LEFT;
        }

        void takeOff(int x, int y, int hour) {
            craft.state = FLYING;
            craft.x = x;
            craft.y = y;
            craft.level = 0;
            startX = x;
            startY = y;
            trackFrom = hour;
        }

        void bringHome() {
            craft.state = HOME;
            craft.level = 0;
            craft.gas = 0;
            craft.bags = 0;
            points = 0;
            entered = false;
            trackBehind = 0;
        }

        void writeRow(int hour, int act, int done) {
            if (!isHour(hour)) {
                return;
            }
            int at = hour * TRACK_COLUMNS;
            rows[at] = craft.x;
            rows[at + 1] = craft.y;
            rows[at + 2] = craft.level;
            rows[at + 3] = craft.gas;
            rows[at + 4] = craft.bags;
            rows[at + 5] = act;
            rows[at + 6] = done;
            trackBehind = hour + 1;
        }

        int trackEntry(int hour, int column) {
            boolean is = isHour(hour) && hour >= trackFrom && hour < trackBehind
                && isWithin(column, 0, TRACK_COLUMNS - 1);
            return is ? rows[hour * TRACK_COLUMNS + column] : NOTHING;
        }

        int raceResult() {
            if (!entered || !hasEnded()) {
                return NOTHING;
            }
            int square = 100 * wayBetween(craft.x - startX, craft.y - startY);
            int root = 0;
            for (int i = 1; i <= FARTHEST_TENFOLD && i * i <= square; i++) {
                root = i;
            }
            return root - points;
        }

        boolean isKnownAt(int hour) {
            return entered && hasEnded() && hour >= endHour + HOURS_TO_KNOWN;
        }
    }

    /** A barred part of the sky. */
    private static final class Zone {
        final int points;
        private final int leastX;
        private final int mostX;
        private final int leastY;
        private final int mostY;
        private int lowest = 0;
        private int highest = 0;
        private int from = 0;
        private int to = 0;

        Zone(int one, int other, int points) {
            this.points = points;
            leastX = Math.min(one % SIDE, other % SIDE);
            mostX = Math.max(one % SIDE, other % SIDE);
            leastY = Math.min(one / SIDE, other / SIDE);
            mostY = Math.max(one / SIDE, other / SIDE);
        }

        void limit(int lowest, int highest, int from, int to) {
            this.lowest = lowest;
            this.highest = highest;
            this.from = from;
            this.to = to;
        }

        boolean holds(Craft craft, int hour) {
            return isWithin(craft.x, leastX, mostX) && isWithin(craft.y, leastY, mostY)
                && isWithin(craft.level, lowest, highest) && isWithin(hour, from, to);
        }
    }

    /** Orders as they were read: a row of steps over a stack; numbers stand for themselves, kinds are negated. */
    private static final class Orders {
        private final int[] code = new int[TAPE_BYTES];
        private int length = 0;
        private final int[] stack = new int[TAPE_BYTES];
        private int height = 0;
        int act = HOLD;
        int much = 0;

        void take(Reader reader) {
            length = Math.min(reader.length, TAPE_BYTES);
            System.arraycopy(reader.code, 0, code, 0, length);
        }

        void decide(int[] facts) {
            act = HOLD;
            much = 0;
            height = 0;
            boolean skipped = false;
            for (int i = 0; i < length; i++) {
                int step = code[i];
                if (skipped) {
                    skipped = !isActWord(-step);
                } else if (step >= 0) {
                    push(step);
                } else if (step == -WORD_IF) {
                    skipped = pop() == 0;
                } else if (isActWord(-step)) {
                    act = -step - WORD_HOLD;
                    much = takesAmount(-step) ? Math.max(0, Math.min(MOST_MUCH, pop())) : 0;
                    return;
                } else {
                    apply(-step, facts);
                }
            }
        }

        private void apply(int kind, int[] facts) {
            if (isValueWord(kind)) {
                int fact = kind - WORD_LEVEL;
                push(fact < facts.length ? facts[fact] : 0);
            } else if (kind == WORD_NOT) {
                push(1 - pop());
            } else {
                int right = pop();
                int left = pop();
                push(combine(kind, left, right));
            }
        }

        private static int combine(int kind, int left, int right) {
            switch (kind) {
                case '+': return left + right;
                case '-': return left - right;
                case '*': return left * right;
                case '/': return right == 0 ? 0 : left / right;
                case '<': return left < right ? 1 : 0;
                case '>': return left > right ? 1 : 0;
                case '=': return left == right ? 1 : 0;
                case WORD_AND: return left & right;
                case WORD_OR: return left | right;
                case WORD_LEAST: return Math.min(left, right);
                default: return Math.max(left, right);
            }
        }

        private void push(int value) {
            if (height < TAPE_BYTES) {
                stack[height] = value;
                height++;
            }
        }

        private int pop() {
            if (height <= 0) {
                return 0;
            }
            height--;
            return stack[height];
        }
    }

    /** Reads a text of orders into steps, or finds its first fault. */
    private static final class Reader {
        private final int[] kinds = new int[TAPE_BYTES + 1];
        private final int[] places = new int[TAPE_BYTES + 1];
        private final int[] numbers = new int[TAPE_BYTES + 1];
        private int tokens = 0;
        private int at = 0;
        private int kind = END;
        private int open = 0;
        private int fault = 0;
        final int[] code = new int[TAPE_BYTES];
        int length = 0;
        int rules = 0;
        int faultPlace = NONE;

        /** Answers the fault; 0 without. */
        int read(int[] text, int n) {
            split(text, Math.min(n, Math.min(text.length, TAPE_BYTES)));
            at = 0;
            kind = kinds[0];
            open = 0;
            fault = 0;
            length = 0;
            rules = 0;
            faultPlace = NONE;
            // One rule more than there may be is looked at: it is the one that is at fault.
            for (int i = 0; i <= MOST_RULES && kind != END; i++) {
                if (!readRule()) {
                    return fault;
                }
            }
            return fault;
        }

        private void split(int[] text, int n) {
            tokens = 0;
            int i = 0;
            while (i < n) {
                int c = text[i];
                int behind = i + 1;
                if (isWithin(c, 'a', 'z')) {
                    behind = runEnd(text, i, n, 'a', 'z');
                    addToken(wordKind(text, i, behind), i, 0);
                } else if (isWithin(c, '0', '9')) {
                    behind = runEnd(text, i, n, '0', '9');
                    addToken(NUMBER, i, numberIn(text, i, behind));
                } else if (c != ' ') {
                    addToken(c, i, 0);
                }
                i = Math.max(behind, i + 1);
            }
            addToken(END, n, 0);
        }

        private void addToken(int kind, int place, int number) {
            if (tokens <= TAPE_BYTES) {
                kinds[tokens] = kind;
                places[tokens] = place;
                numbers[tokens] = number;
                tokens++;
            }
        }

        private static int runEnd(int[] text, int from, int n, int least, int most) {
            int end = from + 1;
            while (end < n && isWithin(text[end], least, most)) {
                end++;
            }
            return end;
        }

        /** Digits may be many: what is above the greatest number stays just above it. */
        private static int numberIn(int[] text, int from, int behind) {
            int number = 0;
            for (int i = from; i < behind; i++) {
                number = Math.min(number * 10 + text[i] - '0', MOST_NUMBER + 1);
            }
            return number;
        }

        private static int wordKind(int[] text, int from, int behind) {
            int kind = WORD_HOLD;
            int next = from;
            for (int i = 0; i < WORDS.length(); i++) {
                int c = WORDS.charAt(i);
                if (c == ' ') {
                    if (next == behind) {
                        return kind;
                    }
                    kind++;
                    next = from;
                } else if (isWithin(next, from, behind - 1) && text[next] == c) {
                    next++;
                } else {
                    next = NONE;
                }
            }
            return NO_WORD;
        }

        private boolean readRule() {
            if (kind != WORD_IF && !isActWord(kind)) {
                return fail(FAULT_PLACE);
            }
            if (rules >= MOST_RULES) {
                return fail(FAULT_LIMIT);
            }
            rules++;
            if (kind == WORD_IF) {
                step();
                if (!readClaim(WORD_OR) || !pass(':')) {
                    return false;
                }
                emit(-WORD_IF);
            }
            return readAct() && pass(';');
        }

        private boolean readAct() {
            int word = kind;
            if (!isActWord(word)) {
                return fail(FAULT_PLACE);
            }
            step();
            if (takesAmount(word) && !readValue(true)) {
                return false;
            }
            emit(-word);
            return true;
        }

        /** Parts joined by "or", each of them parts joined by "and". */
        private boolean readClaim(int joint) {
            for (int i = 0; i <= TAPE_BYTES; i++) {
                if (!(joint == WORD_OR ? readClaim(WORD_AND) : readTest())) {
                    return false;
                }
                if (i > 0) {
                    emit(-joint);
                }
                if (kind != joint) {
                    return true;
                }
                step();
            }
            return true;
        }

        private boolean readTest() {
            if (kind == WORD_NOT) {
                if (!openOne() || !readTest()) {
                    return false;
                }
                emit(-WORD_NOT);
                open--;
                return true;
            }
            if (kind == '[') {
                if (!openOne() || !readClaim(WORD_OR) || !pass(']')) {
                    return false;
                }
                open--;
                return true;
            }
            if (!readValue(true)) {
                return false;
            }
            int sign = kind;
            if (sign != '<' && sign != '>' && sign != '=') {
                return fail(FAULT_PLACE);
            }
            step();
            if (!readValue(true)) {
                return false;
            }
            emit(-sign);
            return true;
        }

        /** A sum, or a product within one. */
        private boolean readValue(boolean sum) {
            int sign = 0;
            for (int i = 0; i <= TAPE_BYTES; i++) {
                if (!(sum ? readValue(false) : readUnit())) {
                    return false;
                }
                if (sign != 0) {
                    emit(-sign);
                }
                sign = kind;
                boolean goesOn = sum ? sign == '+' || sign == '-' : sign == '*' || sign == '/';
                if (!goesOn) {
                    return true;
                }
                step();
            }
            return true;
        }

        private boolean readUnit() {
            int first = kind;
            if (first == NUMBER) {
                int number = numbers[at];
                if (number > MOST_NUMBER) {
                    return fail(FAULT_NUMBER);
                }
                emit(number);
                step();
                return true;
            }
            if (isValueWord(first)) {
                emit(-first);
                step();
                return true;
            }
            if (first != WORD_LEAST && first != WORD_MOST) {
                return readBracketed(false);
            }
            step();
            if (!readBracketed(true)) {
                return false;
            }
            emit(-first);
            return true;
        }

        private boolean readBracketed(boolean pair) {
            if (kind != '(') {
                return fail(FAULT_PLACE);
            }
            if (!openOne() || !readValue(true)) {
                return false;
            }
            if (pair && (!pass(',') || !readValue(true))) {
                return false;
            }
            if (!pass(')')) {
                return false;
            }
            open--;
            return true;
        }

        private boolean openOne() {
            if (open >= MOST_OPEN) {
                return fail(FAULT_LIMIT);
            }
            open++;
            step();
            return true;
        }

        private boolean pass(int wanted) {
            if (kind != wanted) {
                return fail(FAULT_PLACE);
            }
            step();
            return true;
        }

        private void step() {
            if (at + 1 < tokens) {
                at++;
            }
            kind = kinds[at];
        }

        private boolean fail(int what) {
            fault = what;
            faultPlace = places[at];
            return false;
        }

        private void emit(int step) {
            if (length < TAPE_BYTES) {
                code[length] = step;
                length++;
            }
        }
    }

    /** Looks through all rows of acts for the next hours. */
    private static final class Planner {
        private final Craft[] crafts = new Craft[LONGEST_PLAN + 1];
        private final int[] winds = new int[LONGEST_PLAN * SLOTS];
        private final int[] warmths = new int[LONGEST_PLAN];
        private final int[] acts = new int[LONGEST_PLAN];
        private final int[] bestActs = new int[LONGEST_PLAN];
        private int length = 0;
        private int leak = 0;
        private int goalX = 0;
        private int goalY = 0;
        int bestWay = NONE;
        int bestBags = NONE;

        Planner() {
            for (int i = 0; i <= LONGEST_PLAN; i++) {
                crafts[i] = new Craft();
            }
        }

        void prepare(Sky sky, int hour, int n) {
            length = Math.min(n, LONGEST_PLAN);
            sky.copyForecasts(winds, hour, length);
            for (int i = 0; i < length; i++) {
                warmths[i] = sky.warmth(hour + i);
            }
        }

        void searchFor(Balloon balloon, int x, int y) {
            leak = balloon.takenLeak;
            goalX = x;
            goalY = y;
            bestWay = NONE;
            bestBags = NONE;
            crafts[0].copy(balloon.craft);
            searchFrom(0);
        }

        int plannedAct(int i) {
            return isWithin(i, 0, LONGEST_PLAN - 1) ? bestActs[i] : HOLD;
        }

        /** Acts are tried in the order of their numbers, so the first of equal rows is met first. */
        private void searchFrom(int depth) {
            if (depth >= length || depth >= LONGEST_PLAN) {
                judge(crafts[length]);
                return;
            }
            Craft now = crafts[depth];
            Craft next = crafts[depth + 1];
            for (int act = HOLD; act <= VALVE; act++) {
                if (mayDo(now, act)) {
                    acts[depth] = act;
                    next.copy(now);
                    flyPlanned(next, act, depth);
                    searchFrom(depth + 1);
                }
            }
        }

        private static boolean mayDo(Craft craft, int act) {
            if (act == HOLD) {
                return true;
            }
            return craft.state == FLYING && (act == DROP ? craft.bags > 0 : craft.gas > 0);
        }

        private void flyPlanned(Craft craft, int act, int depth) {
            if (craft.state != FLYING) {
                return;
            }
            craft.perform(act, act == DROP ? 1 : PLANNED_VALVE);
            craft.settle(leak, warmths[depth]);
            if (craft.state == FLYING) {
                int at = depth * SLOTS + slotOf(craft.level, areaOf(craft.x, craft.y));
                craft.drift(isWithin(at, 0, winds.length - 1) ? winds[at] : CALM);
            }
        }

        private void judge(Craft craft) {
            int way = wayBetween(craft.x - goalX, craft.y - goalY);
            boolean better = bestWay == NONE || way < bestWay || (way == bestWay && craft.bags > bestBags);
            if (better) {
                bestWay = way;
                bestBags = craft.bags;
                System.arraycopy(acts, 0, bestActs, 0, length);
            }
        }
    }

    /** Sights, and the ways that may have led from one to the next. */
    private static final class Sightings {
        private final int[] hours = new int[MOST_SIGHTS];
        private final int[] squares = new int[MOST_SIGHTS];
        // By hour, level and y, as bits of x: the squares from which that level leads on, by all sights, to the last.
        private final int[] good = new int[LONGEST_WAY * TOP_LEVEL * SIDE];
        // By y, as bits of x: the squares to which the level that is looked at must lead.
        private final int[] goals = new int[SIDE];
        // By level and square, with a level more at either end: how many ways lead to a good one in an hour, and where
        // that hour carries them.
        private final int[] these = new int[(TOP_LEVEL + 2) * SQUARES];
        private final int[] carried = new int[(TOP_LEVEL + 2) * SQUARES];
        // By level and area, of the hour that is looked at.
        private final int[] pullsX = new int[SLOTS];
        private final int[] pullsY = new int[SLOTS];
        private final int[] firstWay = new int[LONGEST_WAY];
        private int wayLength = 0;
        private boolean known = false;
        int size = 0;
        int wayCount = 0;

        int note(int hour, int x, int y) {
            if (size >= MOST_SIGHTS) {
                return REFUSED;
            }
            if (size > 0 && (hour <= hours[size - 1] || hour > hours[0] + LONGEST_WAY)) {
                return -2;
            }
            hours[size] = hour;
            squares[size] = y * SIDE + x;
            size++;
            known = false;
            return size;
        }

        int forgetSights() {
            int were = size;
            size = 0;
            known = false;
            return were;
        }

        void forgetWays() {
            known = false;
        }

        int firstWayLevel(int k) {
            return k >= 0 && k < wayLength && k < LONGEST_WAY ? firstWay[k] : NONE;
        }

        void findWays(Sky sky) {
            if (known) {
                return;
            }
            known = true;
            wayCount = 0;
            wayLength = 0;
            if (size < 2) {
                return;
            }
            int span = Math.min(hours[size - 1] - hours[0], LONGEST_WAY);
            for (int row = span - 1; row >= 0; row--) {
                markHour(sky, row, row == span - 1);
            }
            followFirst(sky, span);
            if (wayLength > 0) {
                wayCount = countWays(sky, span);
            }
        }

        // ---- which squares and levels are good, from the last hour back ----

        private void markHour(Sky sky, int row, boolean last) {
            noteWinds(sky, hours[0] + row);
            int seen = squareSeenAt(hours[0] + row);
            for (int level = 1; level <= TOP_LEVEL; level++) {
                noteGoals(row + 1, level, last);
                int base = placeOf(row, level);
                for (int y = 0; y < SIDE; y++) {
                    int bits = leadingOn(level, 0, y) | leadingOn(level, 1, y);
                    good[base + y] = bits & bitsLeftBy(seen, y);
                }
            }
        }

        private void noteGoals(int row, int level, boolean last) {
            int lowest = Math.max(level - 1, 1);
            int highest = Math.min(level + 1, TOP_LEVEL);
            for (int y = 0; y < SIDE; y++) {
                int bits = 0;
                for (int near = lowest; near <= highest && !last; near++) {
                    bits |= good[placeOf(row, near) + y];
                }
                goals[y] = last ? bitsLeftBy(squares[size - 1], y) : bits;
            }
        }

        /** The squares of a row, in its western half (0) or its eastern one (1), from which a level leads to a goal. */
        private int leadingOn(int level, int half, int y) {
            int slot = slotOf(level, areaOf(half * AREA_SIDE, y));
            int to = y + pullsY[slot];
            if (to < 0 || to >= SIDE) {
                return 0;
            }
            int pull = pullsX[slot];
            int bits = pull >= 0 ? goals[to] >> pull : goals[to] << -pull;
            return bits & (HALF_ROW << (half * AREA_SIDE));
        }

        /** Of row y: all squares without a sight (NONE), else that of the sight alone. */
        private static int bitsLeftBy(int seen, int y) {
            if (seen == NONE) {
                return WHOLE_ROW;
            }
            return seen / SIDE == y ? 1 << seen % SIDE : 0;
        }

        private int squareSeenAt(int hour) {
            for (int i = 0; i < size; i++) {
                if (hours[i] == hour) {
                    return squares[i];
                }
            }
            return NONE;
        }

        private static int placeOf(int row, int level) {
            return (row * TOP_LEVEL + level - 1) * SIDE;
        }

        private boolean isGood(int row, int level, int square) {
            return (good[placeOf(row, level) + square / SIDE] >> square % SIDE & 1) == 1;
        }

        // ---- the first way, and how many there are, from the first hour on ----

        private void followFirst(Sky sky, int span) {
            int square = squares[0];
            int lowest = 1;
            for (int row = 0; row < span && square != NONE; row++) {
                int level = firstGood(row, square, lowest);
                if (level == NONE) {
                    return;
                }
                firstWay[row] = level;
                wayLength = row + 1;
                lowest = Math.max(level - 1, 1);
                noteWinds(sky, hours[0] + row);
                square = squareBehind(square, level);
            }
        }

        /** Behind a good level one of those round it is good: none that is too high is met first. */
        private int firstGood(int row, int square, int lowest) {
            for (int level = lowest; level <= TOP_LEVEL; level++) {
                if (isGood(row, level, square)) {
                    return level;
                }
            }
            return NONE;
        }

        /** Each way to a good square leads on: once there are as many as are told, there are no fewer in the end. */
        private int countWays(Sky sky, int span) {
            Arrays.fill(these, 0);
            int all = 0;
            for (int level = 1; level <= TOP_LEVEL; level++) {
                if (isGood(0, level, squares[0])) {
                    these[level * SQUARES + squares[0]] = 1;
                    all++;
                }
            }
            for (int row = 0; row < span - 1 && all < MOST_WAYS; row++) {
                noteWinds(sky, hours[0] + row);
                Arrays.fill(carried, 0);
                all = 0;
                for (int level = 1; level <= TOP_LEVEL; level++) {
                    carryLevel(row, level);
                }
                for (int level = 1; level <= TOP_LEVEL; level++) {
                    all = Math.min(all + gatherLevel(row + 1, level), MOST_WAYS);
                }
            }
            return all;
        }

        private void carryLevel(int row, int level) {
            for (int y = 0; y < SIDE; y++) {
                int bits = good[placeOf(row, level) + y];
                for (int half = 0; half < 2 && bits != 0; half++) {
                    carryHalf(level, half, y);
                }
            }
        }

        private void carryHalf(int level, int half, int y) {
            int slot = slotOf(level, areaOf(half * AREA_SIDE, y));
            int toY = y + pullsY[slot];
            int from = level * SQUARES + y * SIDE;
            int to = level * SQUARES + toY * SIDE;
            for (int x = half * AREA_SIDE; x < (half + 1) * AREA_SIDE; x++) {
                int ways = these[from + x];
                if (ways > 0 && isSquare(x + pullsX[slot], toY)) {
                    carried[to + x + pullsX[slot]] += ways;
                }
            }
        }

        /** What was carried at the levels round this one; its sum, which stays below what an int holds. */
        private int gatherLevel(int row, int level) {
            int sum = 0;
            for (int y = 0; y < SIDE; y++) {
                int bits = good[placeOf(row, level) + y];
                int at = level * SQUARES + y * SIDE;
                for (int x = 0; x < SIDE; x++) {
                    int ways = 0;
                    if ((bits >> x & 1) == 1) {
                        ways = carried[at + x - SQUARES] + carried[at + x] + carried[at + x + SQUARES];
                    }
                    these[at + x] = ways;
                    sum += ways;
                }
            }
            return sum;
        }

        private void noteWinds(Sky sky, int hour) {
            for (int slot = 0; slot < SLOTS; slot++) {
                int wind = sky.trueWind(slot, hour);
                pullsX[slot] = pullX(wind);
                pullsY[slot] = pullY(wind);
            }
        }

        /** Where the winds that were noted carry one; NONE beyond the field. */
        private int squareBehind(int square, int level) {
            int x = square % SIDE;
            int y = square / SIDE;
            int slot = slotOf(level, areaOf(x, y));
            int toX = x + pullsX[slot];
            int toY = y + pullsY[slot];
            return isSquare(toX, toY) ? toY * SIDE + toX : NONE;
        }
    }

    /** Amounts of gas, hour behind hour, each with an error. */
    private static final class GasLog {
        private final int[] amounts = new int[MOST_LOGGED];
        private final int[] errors = new int[MOST_LOGGED];
        int size = 0;

        int write(int amount, int error) {
            if (size >= MOST_LOGGED) {
                return REFUSED;
            }
            amounts[size] = amount;
            errors[size] = error;
            size++;
            return size;
        }

        /**
         * Of two amounts one apart, those an hour later are one apart or the same (a leak is a tenth at most):
         * so the amounts that are possible are always all from a least to a greatest one.
         */
        boolean fits(int leak) {
            if (size == 0) {
                return false;
            }
            int least = 0;
            int most = amounts[0] + errors[0];
            for (int i = 0; i < size; i++) {
                if (i > 0) {
                    least -= lostByLeak(least, leak);
                    most -= lostByLeak(most, leak);
                }
                least = Math.max(least, amounts[i] - errors[i]);
                most = Math.min(most, amounts[i] + errors[i]);
                if (least > most) {
                    return false;
                }
            }
            return true;
        }
    }
}
