import java.lang.reflect.Constructor;
import java.lang.reflect.Field;
import java.lang.reflect.Method;
import java.lang.reflect.Modifier;
import java.util.Arrays;
import java.util.TreeSet;

/** The public face of the document, the constants, and promise 1: a new object. */
public final class FaceTest {
    private static final String[] FACE = {
        "wind(int,int,int,int,int,int)", "forecast(int,int,int,int,int,int)", "told(int,int,int,int)",
        "found(int,int,int)", "cloud(int,int,boolean)", "balloon(int,int)", "cylinder(int,int,int)",
        "fillable(int,int,int)", "fill(int,int,int)", "set(int,int,int)", "inspect(int)", "start(int,int,int)",
        "home(int)", "feed(int,int,int,int,int)", "orders(int,int)", "fault()", "act(int,int,int)", "hours(int)",
        "of(int,int)", "track(int,int,int)", "plan(int,int,int,int,int)", "zone(int,int,int,int,int,int)",
        "sight(int,int,int)", "clear()", "ways()", "way(int)", "log(int,int)", "unlog()", "leaks(int)", "enter(int)",
        "result(int)", "ranked(int,int)", "count(int)"};

    private static String open(int modifiers) {
        return Modifier.isPrivate(modifiers) ? "private " : Modifier.isPublic(modifiers) ? "" : "open ";
    }

    public static void main(String[] args) {
        TreeSet<String> seen = new TreeSet<>();
        TreeSet<String> hidden = new TreeSet<>();
        for (Method m : BalloonHouse.class.getDeclaredMethods()) {
            if (Modifier.isPrivate(m.getModifiers())) {
                hidden.add(m.getName());
                continue;
            }
            String names = Arrays.toString(Arrays.stream(m.getParameterTypes()).map(Class::getName).toArray());
            seen.add(open(m.getModifiers()) + m.getName()
                + names.replace("[", "(").replace("]", ")").replace(" ", ""));
            Check.same(m.getName() + " answers", m.getReturnType().getName(), "int");
        }
        Check.same("methods", seen.toString(), new TreeSet<>(Arrays.asList(FACE)).toString());
        for (Class<?> inside : BalloonHouse.class.getDeclaredClasses()) {
            for (Method m : inside.getDeclaredMethods()) {
                hidden.add(m.getName());
            }
        }
        for (Method m : BalloonHouse.class.getDeclaredMethods()) {
            if (!Modifier.isPrivate(m.getModifiers())) {
                Check.same("hidden " + m.getName(), "" + hidden.contains(m.getName()), "false");
            }
        }
        TreeSet<String> fields = new TreeSet<>();
        for (Field f : BalloonHouse.class.getDeclaredFields()) {
            if (!Modifier.isPrivate(f.getModifiers())) {
                fields.add(Modifier.toString(f.getModifiers()) + " " + f.getType() + " " + f.getName());
            }
        }
        Check.same("fields", fields.toString(), "[public static final int NONE, public static final int NOTHING]");
        Constructor<?>[] makers = BalloonHouse.class.getDeclaredConstructors();
        Check.due("constructors", makers.length, 1);
        Check.same("constructor", makers[0].toString(), "public BalloonHouse()");
        Check.same("class", Modifier.toString(BalloonHouse.class.getModifiers()), "public final");
        Check.due("NONE", BalloonHouse.NONE, -1);
        Check.due("NOTHING", BalloonHouse.NOTHING, -1000000);
        newObject();
        twoObjects();
        Check.end();
    }

    private static void newObject() {
        BalloonHouse house = new BalloonHouse();
        for (int what = 0; what <= 9; what++) {
            Check.due("count of a new one, " + what, house.count(what), 0);
        }
        Check.due("no fault yet", house.fault(), -1);
        Check.due("no ways", house.ways(), 0);
        Check.due("no way", house.way(0), -1);
        Check.due("no leaks", house.leaks(0), 0);
        Check.due("nothing to fill with", house.fillable(1, 1, 0), -1);
        Check.due("none is ranked", house.ranked(1000, 0), -1);
        Check.due("no forecast", house.told(6, 3, 999, 1000), 33);
        Check.due("no wind found", house.found(1, 0, 0), -1);
        Check.noBalloon("no balloon", () -> house.of(0, 0));
        // No wind at first: a flight stays where it started, and finds a calm.
        BalloonHouse calm = Check.houseWith(1000, 100, 1000, 0);
        calm.start(0, 3, 20);
        calm.hours(2);
        Check.row("calm", Check.of(calm, 0, 0, 1, 2, 3), 1, 3, 20, 2);
        Check.due("calm found", calm.found(1, 2, 0), 33);
        // No cloud at first: hour 6 warms by 60 thousandths.
        calm.hours(4);
        Check.due("sun without cloud", calm.of(0, 8), 1060 * 58 / 100);
    }

    /** What is done with one is not seen in another. */
    private static void twoObjects() {
        BalloonHouse one = new BalloonHouse();
        BalloonHouse other = new BalloonHouse();
        other.balloon(1000, 10);
        other.cylinder(900, 100, 0);
        one.balloon(1000, 10);
        one.cylinder(900, 100, 0);
        one.fill(0, 900, 100);
        one.set(0, 0, 9);
        one.wind(1, 0, 0, 1000, 1, 1);
        one.forecast(1, 0, 0, 1000, 1, 1);
        one.cloud(0, 1000, true);
        one.zone(0, 575, 6, 0, 1000, 9);
        one.sight(0, 5, 5);
        one.log(5, 5);
        Check.orders(one, 0, "drop !");
        one.feed(0, 0, 0, 0, 0);
        one.start(0, 5, 5);
        one.hours(3);
        int[] counts = new int[10];
        for (int what = 0; what < 10; what++) {
            counts[what] = other.count(what);
        }
        Check.row("the other", counts, 0, 1, 1, 0, 0, 0, 0, 0, 0, 0);
        Check.due("no fault", other.fault(), -1);
        Check.due("no forecast", other.told(1, 0, 0, 0), 33);
        other.fill(0, 900, 100);
        other.start(0, 5, 5);
        other.hours(6);
        Check.row("calm, without zones", Check.of(other, 0, 1, 2, 9), 5, 5, 0);
        Check.due("without cloud", other.of(0, 8), 954 * 58 / 100);
    }
}
