/** The edges of promises 1 to 8: a TEXT code by code, and the bounds of what is told of a YARD. */
public final class YardEdgeTest {
    private static final Check check = new Check("YardEdgeTest");
    /** Head and six taps, each code another one that may stand there. */
    private static final String SIX_TAPS = "y999;f999;g011;o199;f911;g091;o555";
    private static final int HEAD = 4, OF_TAP = 5, LONGEST = 34;
    private static final String DIGITS = "0123456789", FROM_1 = "123456789";

    public static void main(String[] args) {
        newObject();
        leastAndGreatestDigits();
        noCapacity();
        howManyTaps();
        seventhTap();
        endsTooSoon();
        eachCodeAtEachPlace();
        codesOfWiderLanes();
        onlyTheFirstFaultCounts();
        takenOverAnOlderOne();
        notTaken();
        lanesAndPlaces();
        kindsAndWants();
        boundsOfHeight();
        boundsOfWater();
        boundsOfRain();
        boundsOfLaw();
        boundsOfLeak();
        check.end();
    }

    private static void taken(String text, int taps) {
        BarrelTaps x = new BarrelTaps();
        check.due("\"" + text + "\"", Check.read(x, text), taps);
        check.due("TAPS of \"" + text + "\"", x.many(0), taps);
    }

    private static void faulty(String text, int place) {
        BarrelTaps x = new BarrelTaps();
        check.due("\"" + text + "\"", Check.read(x, text), -100 - place);
        check.due("TAPS of \"" + text + "\"", x.many(0), 0);
        check.due("fault() of \"" + text + "\"", x.fault(), 0);
    }

    private static void newObject() {
        check.says("A new object: No YARD (no TAPS), SHEETS have nothing");
        BarrelTaps x = new BarrelTaps();
        check.due("fault() ahead of any call", x.fault(), 0);
        check.due("trace() ahead of any call", x.trace(), 0);
        check.due("TAPS", x.many(0), 0);
        check.due("the first TAP", x.ofTap(0, 0), -1);
        check.due("WATER", x.begin(0), -3);
        for (int k = 0; k < 4; k++) {
            check.due("sheet " + k + " has nothing to lose", x.lose(k), 0);
            check.due("nothing to put to", x.put(k, 0, 1), -11);
            check.due("nothing to read", x.yard(k, 0, 0, 0), -11);
        }
        BarrelTaps y = new BarrelTaps();
        Check.read(y, "y011;f011");
        check.due("an object has its own YARD", x.many(0), 0);
        check.due("and its own SHEETS", x.lose(0), 0);
    }

    private static void leastAndGreatestDigits() {
        check.says("two digits 01 .. 99 (CAP), a digit 1 .. 9 (PER)");
        String[] caps = {"01", "02", "09", "10", "11", "19", "90", "98", "99"};
        for (String cap : caps) {
            check.due("CAP " + cap, Check.yard("y" + cap + "1;f011").many(1), Integer.parseInt(cap));
        }
        for (int per = 1; per <= 9; per++) {
            check.due("PER " + per, Check.yard("y01" + per + ";f011").many(2), per);
        }
        faulty("y010;f011", 3);
        check.says("0 .. 9 (HEIGHT in inches), 1 .. 9 (NEED, pails a DAY), 1 .. 9 (SPEED)");
        for (int v = 0; v <= 9; v++) {
            check.due("HEIGHT", Check.yard("y011;f" + v + "11").ofTap(0, 1), v);
            if (v > 0) {
                check.due("NEED", Check.yard("y011;f0" + v + "1").ofTap(0, 2), v);
                check.due("SPEED", Check.yard("y011;f01" + v).ofTap(0, 3), v);
            }
        }
        faulty("y011;f001", 7);
        faulty("y011;f010", 8);
        faulty("y011;f011;g101", 12);
        faulty("y011;f011;g110", 13);
    }

    private static void noCapacity() {
        check.says("of 00 the first digit");
        faulty("y00", 1);
        faulty("y001", 1);
        faulty("y000", 1);
        faulty("y00x", 1);
        faulty("y001;f011", 1);
        faulty("y0", 2);
        faulty("y0x", 2);
        faulty("y0;", 2);
        taken("y011;f011", 1);
        taken("y101;f011", 1);
    }

    private static void howManyTaps() {
        check.says("then 1 to 6 TAPS, numbered from 0 on");
        faulty("y999", 4);
        for (int taps = 1; taps <= 6; taps++) {
            String text = SIX_TAPS.substring(0, HEAD + taps * OF_TAP);
            taken(text, taps);
            BarrelTaps x = Check.yard(text);
            check.due("the first", x.ofTap(0, 1), 9);
            check.due("the last", x.ofTap(taps - 1, 1), text.charAt(text.length() - 3) - '0');
            check.due("one more", x.ofTap(taps, 1), -1);
        }
    }

    private static void seventhTap() {
        check.says("(the ; of a seventh TAP)");
        faulty(SIX_TAPS + ";", LONGEST);
        faulty(SIX_TAPS + ";f", LONGEST);
        faulty(SIX_TAPS + ";f011", LONGEST);
        faulty(SIX_TAPS + ";f011;f011", LONGEST);
        faulty(SIX_TAPS + ";x", LONGEST);
        faulty(SIX_TAPS + "f", LONGEST);
        faulty(SIX_TAPS + "y", LONGEST);
        BarrelTaps x = new BarrelTaps();
        Check.write(x, 0, 0, 0, SIX_TAPS);
        x.sheet(1, 0, 60);
        x.copy(0, 0, 1, 0, LONGEST);
        check.due("what is behind the TEXT's cells is not asked", x.yard(1, 0, 0, LONGEST), 6);
        check.due("a 0 behind it", x.yard(1, 0, 0, 60), -100 - LONGEST);
        x.copy(0, 0, 1, 60 - LONGEST, LONGEST);
        check.due("the last cells", x.yard(1, 0, 60 - LONGEST, LONGEST), 6);
    }

    private static void endsTooSoon() {
        check.says("how many codes there are, if it just ends too soon");
        for (int n = 0; n <= LONGEST; n++) {
            boolean whole = n > HEAD && (n - HEAD) % OF_TAP == 0;
            if (whole) {
                taken(SIX_TAPS.substring(0, n), (n - HEAD) / OF_TAP);
            } else {
                faulty(SIX_TAPS.substring(0, n), n);
            }
        }
    }

    /** The codes that may stand at a place of a text. */
    private static String mayStandAt(int place) {
        String[] head = {"y", DIGITS, DIGITS, FROM_1};
        String[] tap = {";", "fgo", DIGITS, FROM_1, FROM_1};
        return place < HEAD ? head[place] : tap[(place - HEAD) % OF_TAP];
    }

    private static void eachCodeAtEachPlace() {
        check.says("FIRST FAULT: the place (from 0 on) of the first code with which no TEXT goes on");
        for (int place = 0; place < LONGEST; place++) {
            BarrelTaps x = new BarrelTaps();
            for (int code = -128; code <= 127; code++) {
                // 512 calls are an object's life.
                if (code % 64 == 0) {
                    x = new BarrelTaps();
                    Check.write(x, 0, 0, 0, SIX_TAPS);
                }
                x.put(0, place, code);
                boolean may = code > 0 && mayStandAt(place).indexOf(code) >= 0;
                check.due("code " + code + " at " + place, x.yard(0, 0, 0, LONGEST), may ? 6 : -100 - place);
            }
        }
    }

    private static void codesOfWiderLanes() {
        check.says("Codes: y 121, f 102, g 103, o 111, ; 59, digits 48 .. 57");
        for (int lane = 1; lane <= 2; lane++) {
            for (int place = 0; place < LONGEST; place++) {
                BarrelTaps x = new BarrelTaps();
                Check.write(x, 3, lane, 0, SIX_TAPS);
                int code = SIX_TAPS.charAt(place);
                check.due("a text of lane " + lane, x.yard(3, lane, 0, LONGEST), 6);
                x.put(3, place, code + 256);
                check.due("256 more at " + place, x.yard(3, lane, 0, LONGEST), -100 - place);
                x.put(3, place, code - 256);
                check.due("256 less at " + place, x.yard(3, lane, 0, LONGEST), -100 - place);
                x.put(3, place, -code);
                check.due("below 0 at " + place, x.yard(3, lane, 0, LONGEST), -100 - place);
                x.put(3, place, code + 65536);
                check.due("65536 more at " + place, x.yard(3, lane, 0, LONGEST), lane == 1 ? 6 : -100 - place);
                x.put(3, place, Integer.MIN_VALUE + code);
                check.due("far below 0 at " + place, x.yard(3, lane, 0, LONGEST), lane == 1 ? 6 : -100 - place);
            }
        }
    }

    private static void onlyTheFirstFaultCounts() {
        check.says("the first code with which no TEXT goes on");
        faulty("x001;f011", 0);
        faulty("y00x;x000", 1);
        faulty("y0x0:x000", 2);
        faulty("y010:x000", 3);
        faulty("y011:x000", 4);
        faulty("y011;x000", 5);
        faulty("y011;fx00", 6);
        faulty("y011;f000", 7);
        faulty("y011;f010", 8);
        faulty("y011;f011;x000", 10);
    }

    private static void takenOverAnOlderOne() {
        check.says("A TEXT that is taken makes all anew: WATER 0 at first, no RAIN, LAW 0, no LEAK, no MARKS");
        allAnewBy(SIX_TAPS, 6, 99, 9);
        allAnewBy("y011;f011", 1, 1, 1);
        BarrelTaps x = used();
        check.due("the same again", x.yard(0, 0, 0, 14), 2);
        check.due("HEIGHT as the TEXT tells it", x.ofTap(1, 1), 5);
        check.due("WATER", x.level(0), 0);
    }

    private static void allAnewBy(String text, int taps, int cap, int per) {
        BarrelTaps x = used();
        int trace = x.trace();
        check.due("taken", Check.read(x, text), taps);
        int[] due = {taps, cap, per, 0, 0};
        for (int what = 0; what <= 4; what++) {
            check.due("many(" + what + ")", x.many(what), due[what]);
        }
        check.due("TRACE is none of that", x.trace(), trace);
        check.due("no MARK to take back", x.back(1), -2);
        for (int day = 0; day <= 10; day++) {
            check.due("LEVEL", x.level(day), 0);
        }
        for (int day = 0; day < 10; day++) {
            check.due("RAIN", x.rain(day, 99), 0);
        }
        check.due("LEAK", x.leak(0, 0), 0);
        check.due("WATER", x.begin(1), 0);
    }

    /** A yard in which all is other than at first. */
    private static BarrelTaps used() {
        BarrelTaps x = Check.yard("y402;f023;g541");
        x.begin(40);
        for (int day = 0; day < 10; day++) {
            x.rain(day, 50 + day);
        }
        x.law(2);
        x.leak(9, 9);
        x.bore(1, 7);
        x.knock(0);
        for (int k = 0; k < 8; k++) {
            x.mark(k, 99);
        }
        return x;
    }

    private static void notTaken() {
        check.says("A TEXT that is not taken changes nothing (but fault())");
        String[] texts = {"", "y", "y00", "y999", "y999;", "y999;f01", "y999;f011;", SIX_TAPS + ";", "y999;f011x"};
        for (String text : texts) {
            BarrelTaps x = used();
            Check.write(x, 0, 0, 0, text);
            x.as(0, 2);
            check.holds("\"" + text + "\" is not taken", x.yard(0, 0, 0, text.length()) <= -100);
            check.due("fault()", x.fault(), 0);
            BarrelTaps y = used();
            Check.write(y, 0, 0, 0, text);
            check.same("behind \"" + text + "\"", State.of(x), State.of(y));
        }
    }

    private static void lanesAndPlaces() {
        check.says("n cells of a SHEET from i on, taken as a row of a LANE");
        String text = "y402;f023;g541";
        for (int lane = 0; lane <= 2; lane++) {
            for (int at : new int[] {0, 1, 46}) {
                BarrelTaps x = new BarrelTaps();
                Check.write(x, lane, lane, at, text);
                check.due("at " + at, x.yard(lane, lane, at, 14), 2);
                check.due("its cells are as they were", x.cell(lane, at, lane), 'y');
                check.due("one code less", x.yard(lane, lane, at, 13), -113);
                check.due("one code later", x.yard(lane, lane, at + 1, 13), -100);
                check.due("none, behind the last", x.yard(lane, lane, at + 14, 0), -100);
                check.due("no INDEX", x.fault(), 0);
                check.due("one cell too far", x.yard(lane, lane, at + 1, 14), -13);
                check.due("INDEX", x.fault(), 3);
                check.due("still 2 TAPS", x.many(0), 2);
            }
        }
    }

    private static void kindsAndWants() {
        check.says("WANTS: a FAMILY its NEED, a GREEDY one half of that (cut) more, an OLDEST one 1 more");
        int[] half = {0, 0, 1, 1, 2, 2, 3, 3, 4, 4};
        for (int need = 1; need <= 9; need++) {
            BarrelTaps x = Check.yard("y999;f0" + need + "1;g0" + need + "1;o0" + need + "1");
            int[] wants = {need, need + half[need], need + half[need] + 1};
            for (int f = 0; f < 3; f++) {
                check.due("kind", x.ofTap(f, 0), f);
                check.due("NEED", x.ofTap(f, 2), need);
                check.due("WANTS of kind " + f + " that needs " + need, x.ofTap(f, 4), wants[f]);
            }
        }
        check.says("0 kind, 1 HEIGHT, 2 NEED, 3 SPEED, 4 WANTS");
        BarrelTaps x = Check.yard("y999;o378");
        int[] due = {-2, 2, 3, 7, 8, 11, -2};
        for (int what = -1; what <= 5; what++) {
            check.due("what " + what, x.ofTap(0, what), due[what + 1]);
        }
    }

    private static void boundsOfHeight() {
        check.says("HEIGHT of a TAP becomes h: what it was");
        BarrelTaps x = Check.yard("y999;f311;g311");
        int was = 3;
        for (int h : new int[] {9, 0, 0, 1, 8, 9, 9, 0}) {
            check.due("bore", x.bore(0, h), was);
            check.due("HEIGHT", x.ofTap(0, 1), h);
            was = h;
        }
        check.due("too high", x.bore(0, 10), -2);
        check.due("too low", x.bore(0, -1), -2);
        check.due("as it was", x.bore(0, 0), 0);
        check.due("the other's", x.ofTap(1, 1), 3);
        check.due("the last TAP", x.bore(1, 9), 3);
        check.due("no TAP", x.bore(2, 9), -1);
    }

    private static void boundsOfWater() {
        check.says("WATER at first becomes v (0 .. CAP): what it was");
        for (int cap : new int[] {1, 2, 9, 10, 99}) {
            BarrelTaps x = Check.yard("y" + cap / 10 + cap % 10 + "1;f011");
            check.due("one more than CAP", x.begin(cap + 1), -2);
            check.due("below 0", x.begin(-1), -2);
            check.due("CAP", x.begin(cap), 0);
            check.due("LEVEL", x.level(0), cap);
            check.due("one more than CAP", x.begin(cap + 1), -2);
            check.due("CAP again", x.begin(cap), cap);
            check.due("0", x.begin(0), cap);
            check.due("LEVEL", x.level(0), 0);
        }
    }

    private static void boundsOfRain() {
        check.says("RAIN of a DAY (0 .. 9) becomes v: what it was");
        BarrelTaps x = Check.yard("y991;f911");
        for (int day = 0; day < 10; day++) {
            check.due("no RAIN at first", x.rain(day, 90 + day), 0);
        }
        for (int day = 0; day < 10; day++) {
            check.due("99", x.rain(day, 99), 90 + day);
            check.due("100", x.rain(day, 100), -2);
            check.due("0", x.rain(day, 0), 99);
            check.due("below 0", x.rain(day, -1), -2);
            check.due("as it was", x.rain(day, 0), 0);
        }
        check.due("ahead of the first DAY", x.rain(-1, 0), -1);
        check.due("behind the last DAY", x.rain(10, 0), -1);
    }

    private static void boundsOfLaw() {
        check.says("The LAW becomes v: what it was");
        BarrelTaps x = Check.yard("y991;f911");
        int was = 0;
        for (int v : new int[] {0, 1, 2, 2, 0, 2, 1, 0}) {
            check.due("law", x.law(v), was);
            check.due("the LAW", x.many(3), v);
            was = v;
        }
        check.due("too small", x.law(-1), -2);
        check.due("too large", x.law(3), -2);
        check.due("as it was", x.many(3), 0);
    }

    private static void boundsOfLeak() {
        check.says("10 times the height at which it was and how many");
        BarrelTaps x = Check.yard("y991;f911");
        check.due("no LEAK at first", x.leak(9, 9), 0);
        check.due("the highest, the most", x.leak(0, 9), 99);
        check.due("the lowest, the most", x.leak(9, 0), 9);
        check.due("the highest, none", x.leak(0, 0), 90);
        check.due("the lowest, none", x.leak(1, 2), 0);
        check.due("too high", x.leak(10, 9), -2);
        check.due("too many", x.leak(9, 10), -2);
        check.due("too low", x.leak(-1, 9), -2);
        check.due("too few", x.leak(9, -1), -2);
        check.due("as it was", x.leak(0, 0), 12);
    }
}
