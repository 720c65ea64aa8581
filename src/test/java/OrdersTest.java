/** Promises 15 to 17: feed, orders, fault; and what orders tell (terms, 3.). */
public final class OrdersTest {
    public static void main(String[] args) {
        tape();
        wrongOrders();
        goodTexts();
        whatCantStand();
        numbersAndLimits();
        faultsStay();
        values();
        claims();
        firstRuleThatHolds();
        Check.end();
    }

    private static void tape() {
        BalloonHouse h = new BalloonHouse();
        h.balloon(100, 10);
        for (int i = 1; i <= 15; i++) {
            Check.due("fed", h.feed(0x20202020, 0x20202020, 0x20202020, 0x20202020, 0x20202020), 20 * i);
            Check.due("counted", h.count(8), 20 * i);
        }
        Check.due("no more than 300", h.feed(0, 0, 0, 0, 0), -1);
        Check.due("still 300", h.count(8), 300);
        Check.due("300 blanks", h.orders(0, 300), 0);
        Check.due("empty then", h.count(8), 0);
        // "land;" and 15 blanks: the highest byte of each number comes first
        h.feed(0x6c616e64, 0x3b202020, 0x20202020, 0x20202020, 0x20202020);
        Check.due("in their order", h.orders(0, 20), 1);
        h.feed(0x6c616e64, 0x3b2020ff, -1, -1, -1);
        Check.due("just the first n", h.orders(0, 7), 1);
        Check.due("empty all the same", h.count(8), 0);
        h.feed(0x6c616e64, 0x3b2020ff, -1, -1, -1);
        Check.due("a byte 255", h.orders(0, 8), -9);
        Check.due("stands at 7", h.fault(), 7);
    }

    private static void wrongOrders() {
        BalloonHouse h = new BalloonHouse();
        h.balloon(100, 10);
        Check.feedText(h, "hold; !");
        Check.noBalloon("none such", () -> h.orders(1, 5));
        Check.noBalloon("none such, wrong", () -> h.orders(-1, 21));
        Check.illegal("more than there are", () -> h.orders(0, 21));
        Check.illegal("less than none", () -> h.orders(0, -1));
        Check.due("it stays then", h.count(8), 20);
        Check.due("and can be read", h.orders(0, 5), 1);
        Check.illegal("the tape is empty", () -> h.orders(0, 1));
        Check.due("no orders", h.orders(0, 0), 0);
    }

    private static void good(String text, int rules) {
        BalloonHouse h = new BalloonHouse();
        h.balloon(100, 10);
        Check.due("\"" + text + "\"", Check.orders(h, 0, text), rules);
        Check.due("no fault in \"" + text + "\"", h.fault(), -1);
        Check.due("the tape is empty", h.count(8), 0);
    }

    private static void bad(String text, int kind, int place) {
        BalloonHouse h = new BalloonHouse();
        h.balloon(100, 10);
        Check.due("\"" + text + "\"", Check.orders(h, 0, text), kind - 10);
        Check.due("place in \"" + text + "\"", h.fault(), place);
        Check.due("the tape is empty", h.count(8), 0);
    }

    private static void goodTexts() {
        good("", 0);
        good("   ", 0);
        good("hold;", 1);
        good("  hold  ;  ", 1);
        good("drop1;valve gas/2;land;hold;", 4);
        good("if1<2:hold;", 1);
        good("if 1 < 2 : hold ;", 1);
        good("if [1<2]:hold;", 1);
        good("if not 1<2 and [x=y or y>x] or (1)=(2):drop least(1,2)*most(level,hour)-sun/cloud+bags;", 1);
        good("valve lift-load;", 1);
        good("drop 9999;drop 0000009999;drop 0;", 3);
        good("hold;hold;hold;hold;hold;hold;hold;hold;hold;hold;hold;hold;  ", 12);
        good("drop ((((((((1))))))));", 1);
        good("if not not not not not not not not 1=1:hold;", 1);
        good("if not [not [not [not [1=1]]]] and not [not [not [not [1=1]]]]:hold;", 1);
        good("if not (((((((1)))))))=(((((((1))))))) or not 1=1:hold;", 1);
        good("drop least(1,most(2,least(3,most(4,least(5,most(6,least(7,most(8,9))))))));", 1);
    }

    private static void whatCantStand() {
        bad("hold", 1, 4);
        bad("hold  ", 1, 6);
        bad("hold;;", 1, 5);
        bad(";", 1, 0);
        bad("  holds;", 1, 2);
        bad("Hold;", 1, 0);
        bad("h old;", 1, 0);
        bad("1", 1, 0);
        bad("99999", 1, 0);
        bad("hold 5;", 1, 5);
        bad("hold 99999;", 1, 5);
        bad("land hold;", 1, 5);
        bad("drop;", 1, 4);
        bad("drop", 1, 4);
        bad("drop -1;", 1, 5);
        bad("drop 1 2;", 1, 7);
        bad("drop 1 99999;", 1, 7);
        bad("drop 1+;", 1, 7);
        bad("drop 1*/2;", 1, 7);
        bad("drop (1;", 1, 7);
        bad("drop 1);", 1, 6);
        bad("drop ();", 1, 6);
        bad("drop [1];", 1, 5);
        bad("drop xy;", 1, 5);
        bad("drop hold;", 1, 5);
        bad("drop least;", 1, 10);
        bad("drop least(1);", 1, 12);
        bad("drop least(1,2,3);", 1, 14);
        bad("drop most(1,2;", 1, 13);
        bad("drop least[1,2];", 1, 10);
        bad("drop 1<2;", 1, 6);
        bad("if", 1, 2);
        bad("if:", 1, 2);
        bad("if 1:hold;", 1, 4);
        bad("if 1<2", 1, 6);
        bad("if 1<2 hold;", 1, 7);
        bad("if 1<2:", 1, 7);
        bad("if 1<2:;", 1, 7);
        bad("if 1<2:if 1<2:hold;", 1, 7);
        bad("if 1<2<3:hold;", 1, 6);
        bad("if 1<=2:hold;", 1, 5);
        bad("if (1<2):hold;", 1, 5);
        bad("if [1]:hold;", 1, 5);
        bad("if [1<2:hold;", 1, 7);
        bad("if [1<2)]:hold;", 1, 7);
        bad("if 1<2]:hold;", 1, 6);
        bad("if 1<2 and:hold;", 1, 10);
        bad("if 1<2 or or 1<2:hold;", 1, 10);
        bad("if and 1<2:hold;", 1, 3);
        bad("if 1<2 not 1<2:hold;", 1, 7);
        bad("if 1<not 2:hold;", 1, 5);
        bad("if not:hold;", 1, 6);
        bad("if [1<2]=[1<2]:hold;", 1, 8);
        bad("ifx<2:hold;", 1, 0);
        bad("hold;\thold;", 1, 5);
        bad("hold;{", 1, 5);
        bad("drop 1" + (char) 0 + ";", 1, 6);
        bad("drop " + (char) 233 + ";", 1, 5);
    }

    private static void numbersAndLimits() {
        bad("drop 10000;", 2, 5);
        bad("drop 1+  00010000 !", 2, 9);
        bad("drop 99999999999999999999999;", 2, 5);
        bad("drop 10000", 2, 5);
        bad("drop 4294967297;", 2, 5);
        good("drop1" + "+1".repeat(147) + ";", 1);
        bad("drop1" + "+1".repeat(147) + "+", 1, 300);
        bad(";".repeat(300), 1, 0);
        good("if1=1" + "or 1=1".repeat(48) + ":hold;", 1);
        String twelve = "hold;hold;hold;hold;hold;hold;hold;hold;hold;hold;hold;hold;";
        bad(twelve + "hold;", 3, 60);
        bad(twelve + " if 1=1:hold;", 3, 61);
        bad(twelve + "drop !", 3, 60);
        bad(twelve + "x", 1, 60);
        bad(twelve + "10000", 1, 60);
        bad("drop (((((((((1", 3, 13);
        bad("drop 1+((((((((least(1,2", 3, 20);
        bad("drop ((((((((least 1", 1, 19);
        bad("if not not not not not not not not not 1=1:hold;", 3, 35);
        bad("if [[[[[[[[[1=1", 3, 11);
        bad("if [[[[[[[[ not 1=1", 3, 12);
        bad("if not [not [not [not [not 1=1]]]]:hold;", 3, 23);
        bad("if not [not [not [not (1)=(2)]]] and not [not [not [not ((1))=1]]]:hold;", 3, 57);
        bad("if not not not not not not not not (1)=1:hold;", 3, 35);
        bad("if not not not not not not not not 1=(1):hold;", 3, 37);
        good("if not not not not not not not not 1=1 and (1)=1:hold;", 1);
    }

    private static void faultsStay() {
        BalloonHouse h = Check.houseWith(1000, 10, 1000, 20);
        Check.due("good", Check.orders(h, 0, "drop 3;"), 1);
        Check.due("bad", Check.orders(h, 0, "drop 5;drop"), -9);
        Check.due("place", h.fault(), 11);
        Check.feedText(h, "hold;");
        Check.illegal("wrong", () -> h.orders(0, 99));
        Check.due("the latest that read a text", h.fault(), 11);
        h.start(0, 5, 5);
        h.hours(1);
        Check.due("the good ones stay", h.of(0, 6), 17);
        Check.due("in flight too", h.orders(0, 5), 1);
        Check.due("no fault now", h.fault(), -1);
        h.hours(1);
        Check.due("the new ones", h.of(0, 6), 17);
        Check.orders(h, 0, "");
        h.hours(1);
        Check.row("none: hold", Check.track(h, 0, 2), 5, 5, 3, 1000, 17, 0, 0);
    }

    /** What an amount comes to: one flight of an hour, valve with more gas than it can be. */
    private static int amount(String value) {
        BalloonHouse h = Check.houseWith(5000, 10, 4000, 7);
        h.cloud(5, 3, true);
        h.hours(4);
        h.start(0, 6, 9);
        h.hours(3);
        Check.due("\"" + value + "\"", Check.orders(h, 0, "valve " + value + ";"), 1);
        h.hours(1);
        return h.track(0, 7, 6);
    }

    private static void values() {
        Check.due("number", amount("123"), 123);
        Check.due("a long sum", amount("1" + "+1".repeat(140)), 141);
        Check.due("sums in a pair", amount("least(1+2,2+3)+most(1+2,2+3)"), 8);
        Check.due("left to right", amount("100-30-20"), 50);
        Check.due("products first", amount("2+3*4"), 14);
        Check.due("brackets", amount("(2+3)*4"), 20);
        Check.due("division", amount("7/2*2"), 6);
        Check.due("cut to 0", amount("10+(0-7)/2"), 7);
        Check.due("by 0", amount("5/0+9"), 9);
        Check.due("by 0, less", amount("20-5/(1-1)"), 20);
        Check.due("less is 0", amount("0-5"), 0);
        Check.due("more is 1,000", amount("1001"), 1000);
        Check.due("1,000", amount("999+1"), 1000);
        // 65,536 times 65,537 is 65,536 beyond what 32 bits hold
        Check.due("it wraps", amount("256*256*(256*256+1)/256"), 256);
    }

    private static void claim(String claim, boolean holds) {
        BalloonHouse h = Check.houseWith(5000, 10, 4000, 7);
        h.cloud(5, 3, true);
        h.hours(4);
        h.start(0, 6, 9);
        h.hours(3);
        Check.due("\"" + claim + "\"", Check.orders(h, 0, "if " + claim + ":drop 1;land;"), 2);
        h.hours(1);
        Check.due("\"" + claim + "\" holds", h.track(0, 7, 5), holds ? 1 : 3);
    }

    private static void claims() {
        claim("level=3", true);
        claim("hour=7", true);
        claim("sun=1", true);
        claim("sun+1=2", true);
        claim("cloud=1", true);
        claim("bags=7", true);
        claim("gas=4000", true);
        claim("lift=4080*77/100", true);
        claim("load=45", true);
        claim("x=6", true);
        claim("y=9", true);
        claim("least(x,y)=6 and most(x,y)=9", true);
        claim("least(y,x)=6 and most(y,x)=9", true);
        claim("1<2", true);
        claim("2<2", false);
        claim("2>1", true);
        claim("2>2", false);
        claim("2=3", false);
        claim("not 2=3", true);
        claim("3=1+2", true);
        claim("1+2=3", true);
        claim("not not 2=3", false);
        claim("1=1 or 1=1 and 1=2", true);
        claim("[1=1 or 1=1] and 1=2", false);
        claim("1=2 and 1=1 or 1=1", true);
        claim("not 1=1 or 1=1", true);
        claim("not [1=1 or 1=1]", false);
        claim("not 1=2 and 1=2", false);
        claim("8192*8192*32<0", true);
        claim("8192*8192*64=0", true);
        claim("8192*8192*32/(0-1)<0", true);
        claim("8192*8192*32-1>0", true);
    }

    private static void firstRuleThatHolds() {
        BalloonHouse night = Check.houseWith(1000, 10, 1000, 20);
        Check.orders(night, 0, "drop 1+sun*2+cloud*4;");
        night.cloud(5, 1, true);
        night.cloud(7, 1, true);
        night.start(0, 5, 5);
        night.hours(8);
        Check.row("sun and cloud", new int[] {night.track(0, 4, 6), night.track(0, 5, 6), night.track(0, 6, 6),
            night.track(0, 7, 6)}, 1, 5, 3, 7);
        BalloonHouse h = Check.houseWith(1000, 10, 1000, 20);
        Check.due("five", Check.orders(h, 0,
            "if hour<1:hold;if hour<2 and level>0:drop 2+1;if hour=2:valve 5;if hour=3:land;if hour<6:drop bags/2;"), 5);
        h.start(0, 5, 5);
        h.hours(7);
        int[][] want = {{0, 0}, {1, 3}, {2, 5}, {3, 497}, {1, 8}, {1, 4}, {0, 0}};
        for (int i = 0; i < want.length; i++) {
            Check.row("hour " + i, new int[] {h.track(0, i, 5), h.track(0, i, 6)}, want[i]);
        }
    }
}
