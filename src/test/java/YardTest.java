/** Promises 1 to 8. */
public final class YardTest {
    private static final Check check = new Check("YardTest");
    private static final int SIX = 34;
    private static final String FULL_TEXT = "y992;f011;g122;o233;f344;g455;o999";

    public static void main(String[] args) {
        newObject();
        texts();
        firstFaults();
        whereTheTextStands();
        yardRefusals();
        allAnew();
        ofTaps();
        settings();
        settingRefusals();
        check.end();
    }

    private static void newObject() {
        BarrelTaps x = new BarrelTaps();
        for (int what = 0; what <= 4; what++) {
            check.due("many(" + what + ") of a new object", x.many(what), 0);
        }
        check.due("trace of a new object", x.trace(), 0);
        check.due("fault of a new object", x.fault(), 0);
        for (int k = 0; k < 4; k++) {
            check.due("lose of a new object", x.lose(k), 0);
        }
        check.due("back(0) of a new object", x.back(0), 0);
    }

    private static void texts() {
        check.due("one tap", Check.read(new BarrelTaps(), "y011;f011"), 1);
        check.due("six taps", Check.read(new BarrelTaps(), FULL_TEXT), 6);
        BarrelTaps x = Check.yard(FULL_TEXT);
        check.due("CAP", x.many(1), 99);
        check.due("PER", x.many(2), 2);
        BarrelTaps least = Check.yard("y011;f011");
        check.due("least CAP", least.many(1), 1);
        check.due("least PER", least.many(2), 1);
        check.due("CAP 10", Check.yard("y101;f011").many(1), 10);
    }

    private static void firstFaults() {
        fault("", 0);
        fault("x", 0);
        fault("Y", 0);
        fault("y", 1);
        fault("y;", 1);
        fault("y0", 2);
        fault("y00", 1);
        fault("y001;f011", 1);
        fault("y0a", 2);
        fault("ya0", 1);
        fault("y01", 3);
        fault("y010", 3);
        fault("y01;", 3);
        fault("y019", 4);
        fault("y0190", 4);
        fault("y019;", 5);
        fault("y019;h", 5);
        fault("y019;0", 5);
        fault("y019;f", 6);
        fault("y019;ff", 6);
        fault("y019;f0", 7);
        fault("y019;f00", 7);
        fault("y019;f0;", 7);
        fault("y019;f01", 8);
        fault("y019;f010", 8);
        fault("y019;f011 ", 9);
        fault("y019;f011f", 9);
        fault("y019;f011;", 10);
        fault("y019;f011;o91", 13);
        fault(FULL_TEXT + ";", SIX);
        fault(FULL_TEXT + ";f011", SIX);
        fault(FULL_TEXT + "x", SIX);
        fault(FULL_TEXT.substring(0, SIX - 1), SIX - 1);
        fault("y019:f011", 4);
        fault("y/91;f011", 1);
        fault("y:91;f011", 1);
    }

    private static void fault(String text, int place) {
        BarrelTaps x = Check.yard("y402;f023;g541");
        x.begin(7);
        x.mark(0, 7);
        check.due("\"" + text + "\"", Check.read(x, text), -100 - place);
        check.due("fault behind \"" + text + "\"", x.fault(), 0);
        check.due("TAPS behind \"" + text + "\"", x.many(0), 2);
        check.due("CAP behind \"" + text + "\"", x.many(1), 40);
        check.due("MARKS behind \"" + text + "\"", x.many(4), 1);
        check.due("LEVEL behind \"" + text + "\"", x.level(0), 7);
    }

    private static void whereTheTextStands() {
        for (int lane = 0; lane <= 2; lane++) {
            BarrelTaps x = new BarrelTaps();
            Check.write(x, 3, lane, 20, "y402;f023;g541;h");
            check.due("text behind other cells", x.yard(3, lane, 20, 14), 2);
            check.due("a part of it", x.yard(3, lane, 20, 9), 1);
            check.due("its fault's place is told from its own beginning", x.yard(3, lane, 20, 16), -115);
            check.due("none of it, at its end", x.yard(3, lane, 36, 0), -100);
            check.due("none of it", x.yard(3, lane, 0, 0), -100);
        }
        BarrelTaps x = new BarrelTaps();
        Check.write(x, 1, 2, 0, "y402;f023");
        x.put(1, 0, 121 + 256);
        check.due("an int is no byte", x.yard(1, 2, 0, 9), -100);
        x.put(1, 0, 121);
        x.put(1, 4, 59 + 65536);
        check.due("an int is no short", x.yard(1, 2, 0, 9), -104);
        BarrelTaps y = new BarrelTaps();
        Check.write(y, 1, 0, 0, "y402;f023");
        y.put(1, 0, 121 + 256);
        check.due("a byte is cut", y.yard(1, 0, 0, 9), 1);
    }

    private static void yardRefusals() {
        BarrelTaps x = new BarrelTaps();
        Check.write(x, 0, 1, 0, "y402;f023");
        refused(x, "UNKNOWN", x.yard(-1, 3, 0, -1), -1, 0);
        refused(x, "UNKNOWN", x.yard(4, 1, 0, 9), -1, 0);
        refused(x, "OUTSIDE", x.yard(1, 3, 0, 9), -2, 0);
        refused(x, "OUTSIDE", x.yard(0, -1, 0, -1), -2, 0);
        refused(x, "CAST ahead of SIZE", x.yard(0, 0, 0, -1), -12, 2);
        refused(x, "CAST ahead of INDEX", x.yard(0, 2, 99, 9), -12, 2);
        refused(x, "NULL ahead of SIZE", x.yard(1, 0, 0, -1), -11, 1);
        refused(x, "SIZE ahead of INDEX", x.yard(0, 1, 99, -1), -14, 4);
        refused(x, "SIZE", x.yard(0, 1, 0, Integer.MIN_VALUE), -14, 4);
        refused(x, "INDEX", x.yard(0, 1, 0, 10), -13, 3);
        refused(x, "INDEX", x.yard(0, 1, 1, 9), -13, 3);
        refused(x, "INDEX", x.yard(0, 1, -1, 9), -13, 3);
        refused(x, "INDEX of none", x.yard(0, 1, 10, 0), -13, 3);
        refused(x, "INDEX of none", x.yard(0, 1, -1, 0), -13, 3);
        refused(x, "INDEX", x.yard(0, 1, 9, Integer.MAX_VALUE), -13, 3);
        refused(x, "INDEX", x.yard(0, 1, Integer.MAX_VALUE, Integer.MAX_VALUE), -13, 3);
        refused(x, "no INDEX", x.yard(0, 1, 9, 0), -100, 0);
        check.due("NULL behind a row that was lost", x.lose(0), 1);
        refused(x, "NULL", x.yard(0, 2, 0, 9), -11, 1);
        check.due("no YARD by all that", x.many(0), 0);
    }

    private static void refused(BarrelTaps x, String what, int got, int want, int fault) {
        check.due("yard: " + what, got, want);
        check.due("fault of yard: " + what, x.fault(), fault);
    }

    private static void allAnew() {
        BarrelTaps x = Check.yard("y402;f023;g541");
        x.begin(30);
        Check.rainRow(x, 9, 8, 7, 6, 5, 4, 3, 2, 1, 9);
        x.law(2);
        x.leak(3, 4);
        x.mark(1, 5);
        x.bore(0, 8);
        x.tell(1);
        int trace = x.trace();
        check.due("a text again", Check.read(x, "y402;f023;g541"), 2);
        check.due("trace is kept", x.trace(), trace);
        check.due("HEIGHT anew", x.ofTap(0, 1), 0);
        check.due("MARKS anew", x.many(4), 0);
        check.due("LAW anew", x.many(3), 0);
        check.due("LEAK anew", x.leak(0, 0), 0);
        for (int day = 0; day < 10; day++) {
            check.due("RAIN anew", x.rain(day, 1), 0);
        }
        check.due("WATER anew", x.begin(1), 0);
        Check.read(x, "y405;g541");
        check.due("fewer TAPS", x.many(0), 1);
        check.due("no second TAP", x.ofTap(1, 0), -1);
    }

    private static void ofTaps() {
        BarrelTaps x = Check.yard("y993;f019;g978;o657;g415;o111");
        int[][] due = {{0, 0, 1, 9, 1}, {1, 9, 7, 8, 10}, {2, 6, 5, 7, 8}, {1, 4, 1, 5, 1}, {2, 1, 1, 1, 2}};
        for (int f = 0; f < due.length; f++) {
            for (int what = 0; what <= 4; what++) {
                check.due("ofTap(" + f + ", " + what + ")", x.ofTap(f, what), due[f][what]);
            }
            check.due("ofTap OUTSIDE", x.ofTap(f, 5), -2);
            check.due("ofTap OUTSIDE", x.ofTap(f, -1), -2);
        }
        check.due("ofTap UNKNOWN", x.ofTap(5, 9), -1);
        check.due("ofTap UNKNOWN", x.ofTap(-1, 0), -1);
        check.due("WANTS of a greedy 9", Check.yard("y993;g091").ofTap(0, 4), 13);
        check.due("WANTS of an oldest 9", Check.yard("y993;o091").ofTap(0, 4), 14);
    }

    private static void settings() {
        BarrelTaps x = Check.yard("y402;f323;g541");
        check.due("bore", x.bore(0, 9), 3);
        check.due("bore", x.bore(0, 0), 9);
        check.due("HEIGHT", x.ofTap(0, 1), 0);
        check.due("the other's HEIGHT", x.ofTap(1, 1), 5);
        check.due("begin", x.begin(40), 0);
        check.due("begin", x.begin(0), 40);
        check.due("rain", x.rain(9, 99), 0);
        check.due("rain", x.rain(9, 0), 99);
        check.due("rain of another day", x.rain(0, 5), 0);
        check.due("law", x.law(2), 0);
        check.due("law", x.law(1), 2);
        check.due("LAW", x.many(3), 1);
        check.due("leak", x.leak(9, 8), 0);
        check.due("leak", x.leak(0, 7), 98);
        check.due("leak", x.leak(6, 0), 7);
        check.due("leak", x.leak(0, 0), 60);
    }

    private static void settingRefusals() {
        BarrelTaps none = new BarrelTaps();
        check.due("bore without a YARD", none.bore(0, 99), -1);
        check.due("begin: STATE ahead of OUTSIDE", none.begin(-1), -3);
        check.due("rain: UNKNOWN", none.rain(10, 100), -1);
        check.due("rain: UNKNOWN", none.rain(-1, 0), -1);
        check.due("rain: OUTSIDE", none.rain(0, 100), -2);
        check.due("rain: STATE", none.rain(0, 99), -3);
        check.due("law: OUTSIDE", none.law(3), -2);
        check.due("law: STATE", none.law(2), -3);
        check.due("leak: OUTSIDE", none.leak(10, 0), -2);
        check.due("leak: OUTSIDE", none.leak(0, 10), -2);
        check.due("leak: STATE", none.leak(9, 9), -3);

        BarrelTaps x = Check.yard("y402;f323;g541");
        check.due("bore: UNKNOWN", x.bore(2, 99), -1);
        check.due("bore: UNKNOWN", x.bore(-1, 0), -1);
        check.due("bore: OUTSIDE", x.bore(0, 10), -2);
        check.due("bore: OUTSIDE", x.bore(0, -1), -2);
        check.due("bore changed nothing", x.ofTap(0, 1), 3);
        check.due("begin: OUTSIDE", x.begin(41), -2);
        check.due("begin: OUTSIDE", x.begin(-1), -2);
        check.due("begin changed nothing", x.begin(0), 0);
        check.due("rain: UNKNOWN", x.rain(10, 100), -1);
        check.due("rain: OUTSIDE", x.rain(9, 100), -2);
        check.due("rain: OUTSIDE", x.rain(9, -1), -2);
        check.due("rain changed nothing", x.rain(9, 0), 0);
        check.due("law: OUTSIDE", x.law(3), -2);
        check.due("law: OUTSIDE", x.law(-1), -2);
        check.due("leak: OUTSIDE", x.leak(-1, 0), -2);
        check.due("leak: OUTSIDE", x.leak(0, -1), -2);
        check.due("leak changed nothing", x.leak(0, 0), 0);
    }
}
