/** Edges of the tape, of texts, faults, limits and values of orders (terms 3, promises 15 to 17). */
public final class EdgeOrdersTest {
    public static void main(String[] args) {
        tapeFromEmptyToFull();
        bytesOfNumbers();
        firstBytesOfTheTape();
        ordersOfNoBytes();
        eachTextThatEndsTooEarly();
        blanks();
        bytesThatCantStand();
        wordsAndDigits();
        numbers();
        rules();
        open();
        openIsClosedAgain();
        theLeastOfOnePlace();
        theFirstFromTheLeft();
        faultOfTheLatest();
        howMuch();
        wrapping();
        dividing();
        comparing();
        sunAndCloud();
        factsAheadOfTheAct();
        firstThatHolds();
        eachBalloonHasItsOwn();
        Check.end();
    }

    private static int read(BalloonHouse h, String text) {
        return Check.orders(h, 0, text);
    }

    private static void good(String text, int rules) {
        BalloonHouse h = new BalloonHouse();
        h.balloon(100, 10);
        Check.due("\"" + text + "\"", read(h, text), rules);
        Check.due("no fault in \"" + text + "\"", h.fault(), -1);
    }

    private static void bad(String text, int kind, int place) {
        BalloonHouse h = new BalloonHouse();
        h.balloon(100, 10);
        Check.due("\"" + text + "\"", read(h, text), kind - 10);
        Check.due("place in \"" + text + "\"", h.fault(), place);
    }

    private static void tapeFromEmptyToFull() {
        BalloonHouse h = new BalloonHouse();
        Check.due("empty", h.count(8), 0);
        for (int i = 1; i <= 14; i++) {
            h.feed(0, 0, 0, 0, 0);
        }
        Check.due("280", h.count(8), 280);
        Check.due("just 300", h.feed(0, 0, 0, 0, 0), 300);
        Check.due("no more", h.feed(0, 0, 0, 0, 0), -1);
        Check.due("nor then", h.feed(0, 0, 0, 0, 0), -1);
        Check.due("300", h.count(8), 300);
        h.balloon(100, 10);
        Check.due("read", h.orders(0, 0), 0);
        Check.due("empty again", h.count(8), 0);
        Check.due("and fed again", h.feed(0, 0, 0, 0, 0), 20);
        // What did not fit is not on the tape: the text is 14 times blanks, and "hold;" at its end.
        BalloonHouse full = new BalloonHouse();
        full.balloon(100, 10);
        for (int i = 0; i < 14; i++) {
            Check.feedText(full, " ".repeat(20));
        }
        Check.feedText(full, " ".repeat(15) + "hold;");
        Check.feedText(full, "!".repeat(20));
        Check.due("its first 300 bytes", full.orders(0, 300), 1);
    }

    private static void bytesOfNumbers() {
        // "drop", " 1+2", "+3*4", "-5/6", "*7; "
        BalloonHouse h = Check.houseWith(1000, 10, 900, 40);
        Check.due("20", h.feed(0x64726f70, 0x20312b32, 0x2b332a34, 0x2d352f36, 0x2a373b20), 20);
        Check.due("in this order", h.orders(0, 20), 1);
        h.start(0, 5, 5);
        h.hours(1);
        Check.due("1 + 2 + 12 - 0", h.of(0, 6), 25);
        // Bytes of 128 and more are not below 0, and no blanks: they can't stand.
        for (int shift = 0; shift < 32; shift += 8) {
            BalloonHouse b = new BalloonHouse();
            b.balloon(100, 10);
            b.feed(0x20202020 & ~(255 << shift) | 0x80 << shift, 0x20202020, 0x20202020, 0x20202020, 0x20202020);
            Check.due("a byte 128", b.orders(0, 20), -9);
            Check.due("in its place", b.fault(), 3 - shift / 8);
        }
        for (int number = 0; number < 5; number++) {
            int[] n = {0x20202020, 0x20202020, 0x20202020, 0x20202020, 0x20202020};
            n[number] = -1;
            BalloonHouse b = new BalloonHouse();
            b.balloon(100, 10);
            b.feed(n[0], n[1], n[2], n[3], n[4]);
            Check.due("-1 is four bytes 255", b.orders(0, 20), -9);
            Check.due("in their place", b.fault(), 4 * number);
        }
    }

    private static void firstBytesOfTheTape() {
        String text = "hold;land;!";
        int[] want = {0, -9, -9, -9, -9, 1, -9, -9, -9, -9, 2, -9};
        for (int n = 0; n < want.length; n++) {
            BalloonHouse h = new BalloonHouse();
            h.balloon(100, 10);
            Check.feedText(h, text);
            Check.due("first " + n, h.orders(0, n), want[n]);
            Check.due("the tape is empty", h.count(8), 0);
            Check.illegal("nothing is left of it", () -> h.orders(0, 1));
        }
        BalloonHouse stays = new BalloonHouse();
        stays.balloon(100, 10);
        Check.feedText(stays, text);
        Check.illegal("one too many", () -> stays.orders(0, 21));
        Check.illegal("less than none", () -> stays.orders(0, -1));
        Check.noBalloon("no such balloon", () -> stays.orders(1, 10));
        Check.due("it stays then", stays.count(8), 20);
        Check.due("with all its bytes", stays.orders(0, 10), 2);
    }

    private static void ordersOfNoBytes() {
        BalloonHouse h = Check.houseWith(1000, 10, 900, 40);
        Check.due("drop", read(h, "drop 3;"), 1);
        h.start(0, 5, 5);
        h.hours(1);
        Check.due("dropped", h.of(0, 6), 37);
        Check.due("none of an empty tape", h.orders(0, 0), 0);
        h.hours(1);
        Check.row("hold then", Check.track(h, 0, 1), 5, 5, 2, 900, 37, 0, 0);
        read(h, "drop 3;");
        Check.feedText(h, "drop 5;");
        Check.due("none of a tape that is not empty", h.orders(0, 0), 0);
        h.hours(1);
        Check.row("hold then", Check.track(h, 0, 2), 5, 5, 3, 900, 37, 0, 0);
        read(h, "drop 3;");
        Check.due("blanks alone", read(h, "    "), 0);
        h.hours(1);
        Check.row("hold then", Check.track(h, 0, 3), 5, 5, 4, 900, 37, 0, 0);
    }

    /** Each beginning of a good text: at its length, or where a word begins that is cut short. */
    private static void eachTextThatEndsTooEarly() {
        String text = "if not [ x < 1 and ( y ) = 22 or 3 > most ( 4 , 5 ) ] : drop least ( 12 , 2 ) + 3 * 4 - 5 / 6 ;";
        for (int n = 1; n < text.length(); n++) {
            String cut = text.substring(0, n);
            int word = n;
            while (word > 0 && Character.isLetter(text.charAt(word - 1))) {
                word--;
            }
            boolean whole = word == n || !Character.isLetter(text.charAt(n));
            bad(cut, 1, whole ? n : word);
            bad(cut + "   ", 1, whole ? n + 3 : word);
        }
        good(text, 1);
        bad("hold", 1, 4);
        bad("land", 1, 4);
        bad("land  ", 1, 6);
        bad("hold;land", 1, 9);
    }

    private static void blanks() {
        good("", 0);
        good(" ", 0);
        good(" ".repeat(300), 0);
        good(" ".repeat(295) + "hold;", 1);
        good("hold;" + " ".repeat(295), 1);
        good("hold" + " ".repeat(295) + ";", 1);
        bad("hold" + " ".repeat(296), 1, 300);
        bad(" ".repeat(299) + ";", 1, 299);
        bad("ho ld;", 1, 0);
        bad("drop 1 0;", 1, 7);
        bad("drop le ast(1,2);", 1, 5);
        good("drop1+x*y;", 1);
        good(" drop  1  +  x  *  y  ; ", 1);
        bad("ifx=1:hold;", 1, 0);
        good("if x=1and y=2or not[x=3]:hold;", 1);
    }

    /** Each byte but those of the language, ahead of a rule and within one. */
    private static void bytesThatCantStand() {
        for (int b = 0; b < 256; b++) {
            char c = (char) b;
            if (c != ' ') {
                bad("  " + c, 1, 2);
            }
            boolean goesOn = " +-*/;".indexOf(c) >= 0;
            boolean digit = c >= '0' && c <= '9';
            if (!goesOn && !digit) {
                bad("drop 1" + c + ";", 1, 6);
            }
        }
    }

    private static void wordsAndDigits() {
        bad("drop x1;", 1, 6);
        bad("drop 1x;", 1, 6);
        bad("drop1x;", 1, 5);
        bad("dropx;", 1, 0);
        bad("holdland;", 1, 0);
        bad("hold land;", 1, 5);
        bad("drop levels;", 1, 5);
        bad("drop leve;", 1, 5);
        bad("drop xx;", 1, 5);
        bad("drop X;", 1, 5);
        bad("drop if;", 1, 5);
        bad("drop and;", 1, 5);
        bad("drop not 1;", 1, 5);
        bad("iff 1=1:hold;", 1, 0);
        bad("if1=1or1=1:hol;", 1, 11);
        good("if1=1or1=1:hold;", 1);
        good("if1=1and1=1:hold;", 1);
        good("if not1=1:hold;", 1);
        bad("ifnot 1=1:hold;", 1, 0);
        bad("if nota 1=1:hold;", 1, 3);
        bad("if x=1 xor y=1:hold;", 1, 7);
        bad("level;", 1, 0);
        bad("or;", 1, 0);
        bad("not hold;", 1, 0);
        String[] names = {"level", "hour", "sun", "cloud", "bags", "gas", "lift", "load", "x", "y"};
        for (String name : names) {
            good("valve " + name + ";", 1);
            good("if " + name + "=" + name + ":land;", 1);
            bad(name + ";", 1, 0);
            bad("hold " + name + ";", 1, 5);
        }
    }

    private static void numbers() {
        good("drop 0;", 1);
        good("drop 9999;", 1);
        bad("drop 10000;", 2, 5);
        bad("drop 99999;", 2, 5);
        good("drop 0009999;", 1);
        bad("drop 0010000;", 2, 5);
        good("drop " + "0".repeat(294) + ";", 1);
        good("drop " + "0".repeat(290) + "9999;", 1);
        bad("drop " + "0".repeat(289) + "10000;", 2, 5);
        bad("drop " + "9".repeat(294) + ";", 2, 5);
        bad("drop " + "9".repeat(295), 2, 5);
        // Beyond what 32 and 64 bits hold: it must not wrap to one that may stand.
        bad("drop 2147483648;", 2, 5);
        bad("drop 4294967295;", 2, 5);
        bad("drop 4294967296;", 2, 5);
        bad("drop 4294967297;", 2, 5);
        bad("drop 18446744073709551617;", 2, 5);
        bad("drop 1+10000;", 2, 7);
        bad("drop (10000);", 2, 6);
        bad("drop least(10000,1);", 2, 11);
        bad("drop least(1,10000);", 2, 13);
        bad("drop most(1,(10000));", 2, 13);
        bad("if 10000=1:hold;", 2, 3);
        bad("if 1=10000:hold;", 2, 5);
        bad("if 1=1:drop 10000;", 2, 12);
        bad("hold;valve 2*10000;", 2, 13);
        bad("hold;if not [1=1 or 1=10000]:land;", 2, 22);
    }

    private static void rules() {
        good("hold;".repeat(11), 11);
        good("hold;".repeat(12), 12);
        good("hold; ".repeat(12), 12);
        bad("hold;".repeat(13), 3, 60);
        bad("hold;".repeat(14), 3, 60);
        bad("hold;".repeat(12) + "   land", 3, 63);
        bad("hold;".repeat(12) + "if", 3, 60);
        bad("hold;".repeat(12) + "drop 10000;", 3, 60);
        bad("hold;".repeat(12) + "valve", 3, 60);
        bad("hold;".repeat(12) + ";", 1, 60);
        bad("hold;".repeat(12) + "hol;", 1, 60);
        bad("hold;".repeat(12) + "10000", 1, 60);
        bad("hold;".repeat(12) + "not", 1, 60);
        bad("hold;".repeat(12) + "(", 1, 60);
        bad("hold;".repeat(11) + "hold!", 1, 59);
        String rule = "if x=1:drop 1;";
        good(rule.repeat(12), 12);
        bad(rule.repeat(13), 3, 12 * rule.length());
    }

    private static void open() {
        good("drop " + "(".repeat(8) + "1" + ")".repeat(8) + ";", 1);
        bad("drop " + "(".repeat(9) + "1" + ")".repeat(9) + ";", 3, 13);
        good("if " + "[".repeat(8) + "1=1" + "]".repeat(8) + ":hold;", 1);
        bad("if " + "[".repeat(9) + "1=1" + "]".repeat(9) + ":hold;", 3, 11);
        good("if " + "not ".repeat(8) + "1=1:hold;", 1);
        bad("if " + "not ".repeat(9) + "1=1:hold;", 3, 35);
        good("drop " + "least(1,".repeat(8) + "1" + ")".repeat(8) + ";", 1);
        bad("drop " + "least(1,".repeat(9) + "1" + ")".repeat(9) + ";", 3, 5 + 8 * 8 + 5);
        good("drop " + "most(".repeat(8) + "1" + ",1)".repeat(8) + ";", 1);
        bad("drop " + "most(".repeat(9) + "1" + ",1)".repeat(9) + ";", 3, 5 + 5 * 8 + 4);
        // Of each kind some: seven and an eighth, then a ninth of each kind.
        String seven = "if not [not [not [not ";
        good(seven + "(1)=1]]]:hold;", 1);
        good(seven + "1=(1)]]]:hold;", 1);
        good(seven + "[1=1]]]]:hold;", 1);
        good(seven + "not 1=1]]]:hold;", 1);
        bad(seven + "((1))=1]]]:hold;", 3, seven.length() + 1);
        bad(seven + "1=((1))]]]:hold;", 3, seven.length() + 3);
        bad(seven + "[[1=1]]]]]:hold;", 3, seven.length() + 1);
        bad(seven + "not not 1=1]]]:hold;", 3, seven.length() + 4);
        bad(seven + "[not 1=1]]]]:hold;", 3, seven.length() + 1);
        bad(seven + "[(1)=1]]]]:hold;", 3, seven.length() + 1);
        bad(seven + "not (1)=1]]]:hold;", 3, seven.length() + 4);
        bad(seven + "not 1=least(1,1)]]]:hold;", 3, seven.length() + 11);
    }

    private static void openIsClosedAgain() {
        String eight = "(".repeat(8) + "1" + ")".repeat(8);
        good("drop " + eight + "+" + eight + "*" + eight + ";", 1);
        good("drop least(" + "(".repeat(7) + "1" + ")".repeat(7) + "," + "(".repeat(7) + "1" + ")".repeat(7) + ");", 1);
        bad("drop least(1," + eight + ");", 3, 13 + 7);
        good("drop " + eight + ";drop " + eight + ";", 2);
        good("if " + eight + "=" + eight + " and " + eight + ">1:drop " + eight + ";", 1);
        // A not is open till its B ends, which is ahead of "and", "or" and "]".
        good("if " + "not ".repeat(8) + "1=1 and " + "not ".repeat(8) + "1=1 or " + "not ".repeat(8) + "1=1:hold;", 1);
        good("if not [" + "not ".repeat(6) + "1=1 or " + "not ".repeat(6) + "1=1] and " + "[".repeat(8) + "1=1"
            + "]".repeat(8) + ":hold;", 1);
        good("if not 1=1:drop " + eight + ";", 1);
        bad("if not " + eight + "=1:hold;", 3, 7 + 7);
        bad("if not 1=" + eight + ":hold;", 3, 9 + 7);
        bad("if not [1=1] and not [" + "not ".repeat(7) + "1=1]:hold;", 3, 22 + 24);
        // What one text left open is not open in the next one.
        BalloonHouse h = new BalloonHouse();
        h.balloon(100, 10);
        Check.due("five are open at the end", read(h, "drop (((((1"), -9);
        Check.due("eight all the same", read(h, "drop " + eight + ";"), 1);
        Check.due("a ninth", read(h, "if [[[[[[[[[1=1"), -7);
        Check.due("eight all the same", read(h, "if " + "not ".repeat(8) + "1=1:hold;"), 1);
        Check.due("twelve, and one more", read(h, "hold;".repeat(13)), -7);
        Check.due("twelve all the same", read(h, "hold;".repeat(12)), 12);
    }

    /** Where two faults meet at one byte the least counts. */
    private static void theLeastOfOnePlace() {
        bad("hold 10000;", 1, 5);
        bad("drop 1 10000;", 1, 7);
        bad("drop x 10000;", 1, 7);
        bad("if 1=1 10000:hold;", 1, 7);
        bad("10000;", 1, 0);
        bad("drop least 10000;", 1, 11);
        bad("drop " + "(".repeat(8) + "1(", 1, 14);
        bad("drop " + "(".repeat(8) + "[1", 1, 13);
        bad("drop " + "(".repeat(8) + "not 1", 1, 13);
        bad("drop " + "(".repeat(8) + "least[", 1, 18);
        bad("if " + "[".repeat(8) + "1=1[", 1, 14);
        bad("if " + "[".repeat(8) + "1=1 not", 1, 15);
        bad("if " + "not ".repeat(8) + "1=[", 1, 37);
        bad("if " + "not ".repeat(8) + "1(", 1, 36);
        bad("hold;".repeat(12) + "drops;", 1, 60);
    }

    private static void theFirstFromTheLeft() {
        bad("drop 10000 !", 2, 5);
        bad("drop ! 10000", 1, 5);
        bad("drop 10000+(((((((((1", 2, 5);
        bad("drop (((((((((10000", 3, 13);
        bad("drop ((((((((10000", 2, 13);
        bad("hold;".repeat(11) + "drop 10000;" + "hold;", 2, 60);
        bad("hold;".repeat(11) + "drop ;" + "hold;", 1, 60);
        bad("hold;".repeat(12) + "hold !", 3, 60);
        bad("drop 1" + "+1".repeat(146) + "+9", 1, 300);
        good("drop 1" + "+1".repeat(146) + ";", 1);
    }

    private static void faultOfTheLatest() {
        BalloonHouse h = new BalloonHouse();
        h.balloon(100, 10);
        h.balloon(100, 10);
        Check.due("none yet", h.fault(), -1);
        read(h, "drop !");
        Check.due("at 5", h.fault(), 5);
        Check.due("asked again", h.fault(), 5);
        Check.orders(h, 1, "!");
        Check.due("of another balloon, at 0", h.fault(), 0);
        read(h, "hold;");
        Check.due("none", h.fault(), -1);
        read(h, "drop 10000;");
        Check.due("at 5", h.fault(), 5);
        Check.due("no bytes", h.orders(1, 0), 0);
        Check.due("none", h.fault(), -1);
        read(h, "hold;hold");
        h.feed(0, 0, 0, 0, 0);
        h.hours(3);
        Check.due("hours and bytes don't change it", h.fault(), 9);
    }

    /** What an act with this amount does in hour 7, at 6, 9, level 3: with 40 bags, or 4,000 of gas. */
    private static int done(String act) {
        BalloonHouse h = Check.houseWith(5000, 10, 4000, 40);
        h.cloud(5, 3, true);
        h.hours(4);
        h.start(0, 6, 9);
        h.hours(3);
        Check.due("\"" + act + "\"", read(h, act + ";"), 1);
        h.hours(1);
        return h.track(0, 7, 6);
    }

    private static int valve(String value) {
        return done("valve " + value);
    }

    private static void howMuch() {
        Check.due("-1", valve("0-1"), 0);
        Check.due("0", valve("0"), 0);
        Check.due("1", valve("1"), 1);
        Check.due("999", valve("999"), 999);
        Check.due("1,000", valve("1000"), 1000);
        Check.due("1,001", valve("1001"), 1000);
        Check.due("9,999", valve("9999"), 1000);
        Check.due("far above", valve("9999*9999"), 1000);
        Check.due("far below", valve("0-9999*9999"), 0);
        Check.due("the least there is", valve("8192*8192*32"), 0);
        Check.due("the greatest there is", valve("8192*8192*32-1"), 1000);
        Check.due("bags below 0", done("drop 0-1"), 0);
        Check.due("39 bags", done("drop 39"), 39);
        Check.due("40 bags", done("drop 40"), 40);
        Check.due("41 of 40 bags", done("drop 41"), 40);
        Check.due("9,999 of 40 bags", done("drop 9999"), 40);
    }

    private static void wrapping() {
        // 8,192 * 8,192 * 32 is the first that is too great for 32 bits
        String great = "8192*8192*32";
        Check.due("below 0 then", valve("most(" + great + ",5)"), 5);
        Check.due("one less is the greatest", valve("least(" + great + "-1,5)"), 5);
        Check.due("twice is 0", valve(great + "*2+7"), 7);
        Check.due("as a sum", valve(great + "+" + great + "+7"), 7);
        Check.due("one less than the least is the greatest", valve("most(" + great + "-1,0)/(" + great + "-1)*3"), 3);
        Check.due("as a difference", valve("0-" + great + "+1+(" + great + "-1)+8"), 8);
        // 9,999 * 9,999 * 9,999 by 2 ^ 32 leaves 3,267,617,327, which 32 bits hold as one below 0
        Check.due("a product that wraps below", valve("9999*9999*9999"), 0);
        // 46,341 squared is 2,147,488,281: 4,633 above the greatest and one, so below 0
        Check.due("a square that wraps", valve("(9999*4+6345)*(9999*4+6345)"), 0);
        Check.due("a square that does not", valve("(9999*4+6344)*(9999*4+6344)"), 1000);
    }

    private static void dividing() {
        Check.due("by 0", valve("9/0"), 0);
        Check.due("0 by 0", valve("0/0+4"), 4);
        Check.due("by what comes to 0", valve("9/(x-6)+4"), 4);
        Check.due("behind it goes on", valve("9/0*5+4"), 4);
        Check.due("cut", valve("999/1000+4"), 4);
        Check.due("cut to 0 from below", valve("5+(0-999)/1000"), 5);
        Check.due("cut to 0 by below", valve("5+999/(0-1000)"), 5);
        Check.due("both below", valve("(0-7)/(0-2)"), 3);
        Check.due("by 1", valve("9/1"), 9);
        Check.due("the least by -1 is the least", valve("most(0,8192*8192*32/(0-1))+6"), 6);
        Check.due("left to right", valve("100/7/2"), 7);
        Check.due("left to right, with times", valve("100/7*7"), 98);
    }

    private static void claim(String claim, boolean holds) {
        BalloonHouse h = Check.houseWith(5000, 10, 4000, 7);
        h.cloud(5, 3, true);
        h.hours(4);
        h.start(0, 6, 9);
        h.hours(3);
        Check.due("\"" + claim + "\"", read(h, "if " + claim + ":drop 1;land;"), 2);
        h.hours(1);
        Check.due("\"" + claim + "\" holds", h.track(0, 7, 5), holds ? 1 : 3);
    }

    private static void comparing() {
        claim("x<5", false);
        claim("x<6", false);
        claim("x<7", true);
        claim("x>5", true);
        claim("x>6", false);
        claim("x>7", false);
        claim("x=5", false);
        claim("x=6", true);
        claim("x=7", false);
        // By the values, not by a difference that wraps.
        claim("8192*8192*32<8192*8192*32-1", true);
        claim("8192*8192*32-1>8192*8192*32", true);
        claim("0-1<8192*8192*32-1", true);
        claim("8192*8192*32>1", false);
        claim("0-1=8192*8192*64-1", true);
        claim("not x=6 or y=9", true);
        claim("not [x=6 or y=9]", false);
        claim("x=6 or x=5 and y=5", true);
        claim("x=5 and y=5 or x=6", true);
        claim("x=5 and [y=5 or x=6]", false);
        claim("x=5 or y=5 or x=6", true);
        claim("x=6 and y=9 and x=7", false);
        claim("not not not x=5", true);
    }

    private static void sunAndCloud() {
        BalloonHouse h = Check.houseWith(1000, 10, 900, 40);
        h.cloud(5, 2, true);
        h.cloud(17, 2, true);
        read(h, "drop 1+sun*2+cloud*4;");
        h.hours(4);
        h.start(0, 5, 5);
        h.hours(4);
        Check.row("dark, cloud, both, sun", new int[] {h.track(0, 4, 6), h.track(0, 5, 6), h.track(0, 6, 6), h.track(0, 7, 6)},
            1, 5, 7, 3);
        BalloonHouse evening = Check.houseWith(1000, 10, 900, 40);
        evening.cloud(17, 2, true);
        read(evening, "drop 1+sun*2+cloud*4;");
        evening.hours(16);
        evening.start(0, 5, 5);
        evening.hours(4);
        Check.row("sun, both, cloud, dark", new int[] {evening.track(0, 16, 6), evening.track(0, 17, 6),
            evening.track(0, 18, 6), evening.track(0, 19, 6)}, 3, 7, 5, 1);
    }

    /** The hour's own sun, but gas, bags, level and square as they are ahead of the act. */
    private static void factsAheadOfTheAct() {
        BalloonHouse h = Check.houseWith(2000, 10, 100, 40);
        h.wind(1, 0, 5, 1, 1, 2);
        read(h, "if hour=5 and level=0 and bags=40 and gas=100 and lift=100 and load=210 and x=5 and y=6:land;");
        Check.due("too heavy", h.start(0, 5, 6), -3);
        h.set(0, 0, 18);
        h.hours(5);
        h.start(0, 5, 6);
        read(h, "if hour=5 and level=0 and bags=18 and gas=100 and lift=100 and load=100 and x=5 and y=6:drop 6;"
            + "if hour=6 and level=1 and bags=12 and gas=100 and lift=97 and load=70 and x=6 and y=8:valve 4;hold;");
        h.hours(2);
        Check.row("in hour 5", Check.track(h, 0, 5), 6, 8, 1, 100, 12, 1, 6);
        // 106 of warmed gas lift 97.52 at level 1
        Check.row("in hour 6", Check.track(h, 0, 6), 6, 8, 2, 96, 12, 2, 4);
        BalloonHouse full = Check.houseWith(100, 10, 100, 0);
        full.hours(6);
        full.start(0, 5, 6);
        read(full, "if gas=100 and lift=106:hold;land;");
        full.hours(1);
        Check.row("ahead of what is too much", Check.track(full, 0, 6), 5, 6, 1, 95, 0, 0, 0);
        BalloonHouse leak = Check.houseWith(1000, 10, 900, 0);
        leak.set(0, 1, 50);
        leak.start(0, 5, 6);
        read(leak, "if gas=900:hold;land;");
        leak.hours(1);
        Check.due("ahead of the leak", leak.track(0, 0, 5), 0);
    }

    private static void firstThatHolds() {
        BalloonHouse h = Check.houseWith(1000, 10, 900, 40);
        StringBuilder text = new StringBuilder();
        for (int i = 0; i < 11; i++) {
            text.append("if hour=").append(i).append(":drop ").append(i % 4).append(";");
        }
        read(h, text + "valve 2;");
        h.start(0, 5, 5);
        h.hours(12);
        for (int i = 0; i < 12; i++) {
            Check.row("hour " + i, new int[] {h.track(0, i, 5), h.track(0, i, 6)}, i < 11 ? 1 : 2, i < 11 ? i % 4 : 2);
        }
        BalloonHouse none = Check.houseWith(1000, 10, 900, 40);
        read(none, "if hour>0:drop 1;if hour<0:land;");
        none.start(0, 5, 5);
        none.hours(2);
        Check.row("none holds: hold", Check.track(none, 0, 0), 5, 5, 1, 900, 40, 0, 0);
        Check.row("the first does", Check.track(none, 0, 1), 5, 5, 2, 900, 39, 1, 1);
        BalloonHouse alone = Check.houseWith(1000, 10, 900, 40);
        read(alone, "drop 2;drop 3;land;");
        alone.start(0, 5, 5);
        alone.hours(1);
        Check.due("the first that has none", alone.of(0, 6), 38);
    }

    private static void eachBalloonHasItsOwn() {
        BalloonHouse h = Check.houseWith(1000, 10, 900, 40);
        h.balloon(1000, 10);
        Check.fillPure(h, 1, 900);
        h.set(1, 0, 40);
        Check.orders(h, 0, "drop 1;");
        Check.orders(h, 1, "drop 2;");
        Check.due("a fault", Check.orders(h, 0, "drop 3"), -9);
        h.start(0, 5, 5);
        h.start(1, 5, 5);
        h.hours(1);
        Check.row("its own", new int[] {h.of(0, 6), h.of(1, 6)}, 39, 38);
        Check.orders(h, 0, "");
        h.hours(1);
        Check.row("none for one", new int[] {h.of(0, 6), h.of(1, 6)}, 39, 36);
    }
}
