import java.io.IOException;
import java.nio.file.Files;
import java.nio.file.Path;
import java.util.List;

/** The example of README.md: its lines stand here too, and answer what is said behind them. */
public final class ReadmeTest {
    public static void main(String[] args) throws IOException {
        example();
        sameLines();
        Check.end();
    }

    private static void due(int got, int want) {
        Check.due("the example", got, want);
    }

    private static void example() {
        BalloonHouse house = new BalloonHouse();

        // On the ground: a balloon, gas, bags, leaks.
        int b = house.balloon(1000, 700);           // volume, net: its number, 0
        house.cylinder(600, 90, 50);                // amount, purity, price: its number, 0
        house.cylinder(500, 80, 30);                // 1
        due(house.fillable(900, 85, 1), 3);         // the cylinders of the cheapest fill, as bits
        due(house.fill(b, 900, 85), 80);            // its price; of 1,100 the balloon holds 1,000
        due(house.set(b, 0, 10), 0);                // ten bags; there were none
        due(house.of(b, 8), 850);                   // lift
        due(house.of(b, 7), 750);                   // load

        // The sky: true winds, forecasts, cloud, a zone.
        house.wind(1, 0, 0, 24, 2, 1);              // level, area, from, hours, x, y
        house.forecast(1, 0, 0, 24, 2, 1);
        house.forecast(2, 0, 0, 24, 0, -2);
        due(house.told(2, 0, 5, 0), 31);            // level, area, hour, known at: 10 * (0 + 3) + (-2 + 3)
        house.cloud(6, 3, true);                    // hours 6, 7 and 8
        house.zone(24 * 6 + 7, 24 * 9 + 9, 16, 0, 9, 5);    // squares 7, 6 to 9, 9, levels 1 to 6, hours 0 to 9, points

        // Standing orders, as bytes on the tape.
        String text = "if bags>8: drop 1; hold;";
        for (int at = 0; at < text.length(); at += 20) {
            int[] five = new int[5];
            for (int i = 0; i < 20; i++) {
                five[i / 4] = five[i / 4] << 8 | (at + i < text.length() ? text.charAt(at + i) : ' ');
            }
            house.feed(five[0], five[1], five[2], five[3], five[4]);
        }
        due(house.orders(b, text.length()), 2);     // rules; -9, -8 or -7 if there were a fault
        due(house.fault(), -1);                     // no place of a fault

        // A flight.
        house.enter(b);                             // for the race
        due(house.start(b, 5, 5), 1);
        house.act(b, 1, 1);                         // drop 1 in the hour that comes, whatever the orders say
        due(house.hours(2), 2);                     // the hour
        due(house.of(b, 1), 9);                     // x
        due(house.of(b, 2), 7);                     // y
        due(house.of(b, 9), 10);                    // points lost in the zone
        due(house.track(b, 1, 5), 1);               // the act of hour 1: drop, by the orders
        due(house.found(1, 0, 0), 54);              // the true wind, now that it was flown
        due(house.plan(b, 2, 12, 9, -1), 1);        // the square of the way that two hours of acts leave to 12, 9
        due(house.plan(b, 2, 12, 9, 0), 0);         // the first of these acts: hold
        house.act(b, 3, 0);                         // land
        house.hours(1);
        due(house.of(b, 0), 2);                     // landed
        due(house.result(b), 34);                   // ten times the way, 44, less 10 points
        due(house.ranked(5, 0), 0);                 // landed in hour 2, so known from hour 5 on
        due(house.home(b), 1);

        // Which levels may a track have been flown at; which leaks fit a log?
        house.sight(3, 5, 5);                       // hour, x, y
        house.sight(5, 7, 6);
        due(house.ways(), 2);                       // how many rows of levels lead from the first to the last
        due(house.way(0), 1);                       // the first of them: 1 and 2
        due(house.way(1), 2);
        house.log(100, 0);                          // amount, error
        house.log(94, 1);
        due(house.leaks(1), 40);                    // the least leak that fits
        due(house.leaks(2), 69);                    // the greatest
    }

    private static void sameLines() throws IOException {
        String own = blockIn(Files.readAllLines(Path.of("src/test/java/ReadmeTest.java")),
            "        BalloonHouse house = new BalloonHouse();", "    }");
        String readme = blockIn(Files.readAllLines(Path.of("README.md")), "BalloonHouse house = new BalloonHouse();", "```");
        Check.same("the example in README.md", readme, own);
    }

    /** From one line up to another, without what the test alone needs, and without blanks. */
    private static String blockIn(List<String> lines, String first, String behind) {
        StringBuilder block = new StringBuilder();
        boolean in = false;
        for (String line : lines) {
            in = in || line.equals(first);
            if (in && line.equals(behind)) {
                return block.toString();
            }
            if (in) {
                String call = line.replaceAll("due\\((.*), (\\S+)\\);\\s*// ", "$1; // $2: ");
                call = call.replaceAll("due\\((.*), (\\S+)\\);", "$1; // $2");
                block.append(call.replaceAll("\\s+", " ").trim()).append('\n');
            }
        }
        return block.toString();
    }
}
