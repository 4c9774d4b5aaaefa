import java.util.function.Supplier;

/**
 * The edges of REFUSALS and FAULTS: which of two comes first, at every call, and that they change nothing.
 * Each call is made on an object of its own, which is then held against one on which it was not made.
 */
public final class RefusalEdgeTest {
    private static final Check check = new Check("RefusalEdgeTest");
    private static final int UNKNOWN = -1, OUTSIDE = -2, STATE = -3, FULL = -4;
    private static final int NULL = 1, CAST = 2, INDEX = 3, SIZE = 4;
    private static final long LOST = Long.MIN_VALUE;
    private static final int LEAST = Integer.MIN_VALUE, MOST = Integer.MAX_VALUE;
    /** Sheet 0 has a text of 19 bytes, 1 has nothing, 2 has 5 shorts, 3 a row of no ints. */
    private static final String TEXT = "y402;f023;g541;o112";
    private static final int LENGTH = 19, TAPS = 3;

    private interface Call {
        long on(BarrelTaps x);
    }

    public static void main(String[] args) {
        numberOfSheet();
        numberOfTap();
        numberOfDay();
        outside();
        stateWithoutYard();
        full();
        lostOfLongs();
        orderOfRefusals();
        stateAheadOfOutside();
        orderOfFaultsOfYard();
        orderOfFaultsOfSheets();
        indexOfNone();
        sizeBelowNone();
        questionsChangeNothing();
        check.end();
    }

    // ---- objects that are told all there is to tell

    private static void writeSheets(BarrelTaps x) {
        Check.write(x, 0, 0, 0, TEXT);
        x.sheet(2, 1, 5);
        x.put(2, 0, 300);
        x.put(2, 4, -7);
        x.sheet(3, 2, 0);
    }

    private static BarrelTaps bare() {
        BarrelTaps x = new BarrelTaps();
        writeSheets(x);
        x.sheet(0, 0, -1);
        return x;
    }

    private static BarrelTaps told() {
        BarrelTaps x = new BarrelTaps();
        writeSheets(x);
        x.yard(0, 0, 0, LENGTH);
        x.begin(20);
        Check.rainRow(x, 3, 0, 9, 40, 1, 7, 0, 0, 5, 12);
        x.law(1);
        x.leak(2, 1);
        x.tell(2);
        x.mark(0, 20);
        x.mark(4, x.level(4));
        x.sheet(0, 0, -1);
        return x;
    }

    private static BarrelTaps fullOfMarks() {
        BarrelTaps x = told();
        for (int day = 5; day <= 10; day++) {
            x.mark(day, x.level(day));
        }
        return x;
    }

    // ---- what is due of a call that is refused

    /** A call that names no FAULTS: fault() stays what it was. */
    private static void refused(String what, Supplier<BarrelTaps> make, Call call, long due) {
        answers(what, make, call, due, SIZE);
    }

    /** A call that names FAULTS, but is refused: fault() is 0 behind it. */
    private static void refusedByRefusal(String what, Supplier<BarrelTaps> make, Call call, long due) {
        answers(what, make, call, due, 0);
    }

    private static void fails(String what, Supplier<BarrelTaps> make, Call call, int fault) {
        answers(what, make, call, -10 - fault, fault);
    }

    private static void answers(String what, Supplier<BarrelTaps> make, Call call, long due, int fault) {
        BarrelTaps x = make.get();
        check.due("fault() ahead of " + what, x.fault(), SIZE);
        check.due(what, call.on(x), due);
        check.due("fault() behind " + what, x.fault(), fault);
        check.same("all else behind " + what, State.of(x), State.of(make.get()));
    }

    private static void eachWay(String what, Call call, long due) {
        refused(what + ", with a YARD", RefusalEdgeTest::told, call, due);
        refused(what + ", without a YARD", RefusalEdgeTest::bare, call, due);
    }

    private static void eachWayClears(String what, Call call, long due) {
        refusedByRefusal(what + ", with a YARD", RefusalEdgeTest::told, call, due);
        refusedByRefusal(what + ", without a YARD", RefusalEdgeTest::bare, call, due);
    }

    private static void eachWayFails(String what, Call call, int fault) {
        fails(what + ", with a YARD", RefusalEdgeTest::told, call, fault);
        fails(what + ", without a YARD", RefusalEdgeTest::bare, call, fault);
    }

    // ---- each refusal

    private static void numberOfSheet() {
        check.says("UNKNOWN (there is no such SHEET); SHEETS 0 .. 3");
        for (int k : new int[] {-1, 4, LEAST, MOST}) {
            eachWayClears("yard of sheet " + k, x -> x.yard(k, 0, 0, LENGTH), UNKNOWN);
            eachWayClears("sheet " + k, x -> x.sheet(k, 0, 1), UNKNOWN);
            eachWay("lose " + k, x -> x.lose(k), UNKNOWN);
            eachWayClears("put to " + k, x -> x.put(k, 0, 1), UNKNOWN);
            eachWayClears("cell of " + k, x -> x.cell(k, 0, 0), LOST);
            eachWayClears("copy of " + k, x -> x.copy(k, 0, 0, 0, 1), UNKNOWN);
            eachWayClears("copy to " + k, x -> x.copy(0, 0, k, 0, 1), UNKNOWN);
        }
        BarrelTaps x = bare();
        for (int k = 0; k < 4; k++) {
            check.due("sheet " + k + " is there", x.sheet(k, 0, 1), 1);
        }
    }

    private static void numberOfTap() {
        check.says("UNKNOWN (there is no such TAP)");
        for (int f : new int[] {-1, TAPS, 6, LEAST, MOST}) {
            ofTapUnknown("with a YARD", RefusalEdgeTest::told, f);
        }
        check.says("No YARD (no TAPS)");
        for (int f : new int[] {-1, 0, TAPS, LEAST, MOST}) {
            ofTapUnknown("without a YARD", RefusalEdgeTest::bare, f);
        }
    }

    private static void ofTapUnknown(String where, Supplier<BarrelTaps> make, int f) {
        refused("ofTap " + where, make, x -> x.ofTap(f, 0), UNKNOWN);
        refused("bore " + where, make, x -> x.bore(f, 5), UNKNOWN);
        refused("got " + where, make, x -> x.got(f, 0), UNKNOWN);
        refused("dry " + where, make, x -> x.dry(f), UNKNOWN);
        refused("highest " + where, make, x -> x.highest(f, 1), UNKNOWN);
        refused("risk " + where, make, x -> x.risk(f, 1, 0, 1, 0), LOST);
        refused("tell " + where, make, x -> x.tell(f), UNKNOWN);
        refused("knock " + where, make, x -> x.knock(f), UNKNOWN);
        refusedByRefusal("as " + where, make, x -> x.as(f, 0), UNKNOWN);
    }

    private static void numberOfDay() {
        check.says("UNKNOWN (there is no such DAY); DAYS 0 .. 9");
        for (int day : new int[] {-1, 10, 11, LEAST, MOST}) {
            eachWay("rain", x -> x.rain(day, 1), UNKNOWN);
            eachWay("got", x -> x.got(0, day), UNKNOWN);
            eachWay("over", x -> x.over(day), UNKNOWN);
            eachWay("rains", x -> x.rains(day, 0), UNKNOWN);
            eachWay("thief", x -> x.thief(day, 1), UNKNOWN);
        }
        check.says("ahead of a DAY (0 .. 10)");
        for (int day : new int[] {-1, 11, LEAST, MOST}) {
            eachWay("level", x -> x.level(day), UNKNOWN);
            eachWay("nobody", x -> x.nobody(day), UNKNOWN);
            eachWay("mark", x -> x.mark(day, 1), UNKNOWN);
        }
        check.says("UNKNOWN: DAY, k below -1");
        for (int k : new int[] {-2, -3, LEAST}) {
            eachWay("rains", x -> x.rains(0, k), UNKNOWN);
        }
    }

    private static void outside() {
        Supplier<BarrelTaps> told = RefusalEdgeTest::told;
        check.says("OUTSIDE (another number is not as told)");
        for (int v : new int[] {-1, LEAST, MOST}) {
            refused("ofTap", told, x -> x.ofTap(0, v), OUTSIDE);
            refused("bore", told, x -> x.bore(0, v), OUTSIDE);
            refused("begin", told, x -> x.begin(v), OUTSIDE);
            refused("rain", told, x -> x.rain(0, v), OUTSIDE);
            refused("law", told, x -> x.law(v), OUTSIDE);
            refused("leak's height", told, x -> x.leak(v, 0), OUTSIDE);
            refused("leak's pails", told, x -> x.leak(0, v), OUTSIDE);
            refused("can", told, x -> x.can(v), OUTSIDE);
            refused("start", told, x -> x.start(v), OUTSIDE);
            refused("best's n", told, x -> x.best(v, 0), OUTSIDE);
            refused("best's what", told, x -> x.best(1, v), OUTSIDE);
            refused("highest", told, x -> x.highest(0, v), OUTSIDE);
            refused("mark", told, x -> x.mark(0, v), OUTSIDE);
            refused("thief", told, x -> x.thief(0, v), OUTSIDE);
            eachWay("back", x -> x.back(v), OUTSIDE);
            eachWay("many", x -> x.many(v), OUTSIDE);
            refusedByRefusal("as", told, x -> x.as(0, v), OUTSIDE);
            eachWayClears("yard's lane", x -> x.yard(0, v, 0, LENGTH), OUTSIDE);
            eachWayClears("sheet's lane", x -> x.sheet(0, v, 1), OUTSIDE);
        }
        oneTooMuch(told);
    }

    private static void oneTooMuch(Supplier<BarrelTaps> told) {
        refused("ofTap", told, x -> x.ofTap(0, 5), OUTSIDE);
        refused("bore", told, x -> x.bore(0, 10), OUTSIDE);
        refused("begin", told, x -> x.begin(41), OUTSIDE);
        refused("rain", told, x -> x.rain(0, 100), OUTSIDE);
        refused("law", told, x -> x.law(3), OUTSIDE);
        refused("leak's height", told, x -> x.leak(10, 0), OUTSIDE);
        refused("leak's pails", told, x -> x.leak(0, 10), OUTSIDE);
        refused("can", told, x -> x.can(11), OUTSIDE);
        refused("start", told, x -> x.start(11), OUTSIDE);
        refused("best's n", told, x -> x.best(11, 0), OUTSIDE);
        refused("best's what", told, x -> x.best(1, 2), OUTSIDE);
        refused("highest", told, x -> x.highest(0, 11), OUTSIDE);
        refused("mark", told, x -> x.mark(0, 100), OUTSIDE);
        refused("thief of 10", told, x -> x.thief(0, 10), OUTSIDE);
        refused("thief of none", told, x -> x.thief(0, 0), OUTSIDE);
        refused("back", told, x -> x.back(3), OUTSIDE);
        refused("back without a YARD", RefusalEdgeTest::bare, x -> x.back(1), OUTSIDE);
        refused("back of 8", RefusalEdgeTest::fullOfMarks, x -> x.back(9), OUTSIDE);
        eachWay("many", x -> x.many(5), OUTSIDE);
        refusedByRefusal("as", told, x -> x.as(0, 3), OUTSIDE);
        eachWayClears("yard's lane", x -> x.yard(0, 3, 0, LENGTH), OUTSIDE);
        eachWayClears("sheet's lane", x -> x.sheet(0, 3, 1), OUTSIDE);
        check.says("OUTSIDE: lane, n above 60");
        eachWayClears("sheet of 61", x -> x.sheet(0, 0, 61), OUTSIDE);
        eachWayClears("sheet of very many", x -> x.sheet(2, 1, MOST), OUTSIDE);
        eachWayClears("sheet of 61 ints", x -> x.sheet(3, 2, 61), OUTSIDE);
    }

    private static void stateWithoutYard() {
        Supplier<BarrelTaps> bare = RefusalEdgeTest::bare;
        check.says("STATE: there is no YARD");
        refused("begin", bare, x -> x.begin(0), STATE);
        refused("rain", bare, x -> x.rain(9, 99), STATE);
        refused("law", bare, x -> x.law(2), STATE);
        refused("leak", bare, x -> x.leak(9, 9), STATE);
        refused("level(0)", bare, x -> x.level(0), STATE);
        refused("level(10)", bare, x -> x.level(10), STATE);
        refused("over", bare, x -> x.over(9), STATE);
        refused("nobody(0)", bare, x -> x.nobody(0), STATE);
        refused("nobody(10)", bare, x -> x.nobody(10), STATE);
        refused("can(0)", bare, x -> x.can(0), STATE);
        refused("can(10)", bare, x -> x.can(10), STATE);
        refused("start(0)", bare, x -> x.start(0), STATE);
        refused("best(0, 0)", bare, x -> x.best(0, 0), STATE);
        refused("worst(1, 0)", bare, x -> x.worst(1, 0), LOST);
        refused("mark", bare, x -> x.mark(10, 99), STATE);
        refused("rains, how many", bare, x -> x.rains(0, -1), STATE);
        refused("rains, the first", bare, x -> x.rains(9, 0), STATE);
        refused("thief", bare, x -> x.thief(9, 9), STATE);
    }

    private static void full() {
        Supplier<BarrelTaps> eight = RefusalEdgeTest::fullOfMarks;
        check.says("MARKS, 8 at most; FULL");
        refused("mark", eight, x -> x.mark(0, 0), FULL);
        refused("mark that is so", eight, x -> x.mark(0, 20), FULL);
        check.says("UNKNOWN: day; OUTSIDE: v (0 .. 99); STATE: there is no YARD; FULL");
        refused("UNKNOWN ahead of FULL", eight, x -> x.mark(11, 0), UNKNOWN);
        refused("UNKNOWN ahead of OUTSIDE and FULL", eight, x -> x.mark(11, 100), UNKNOWN);
        refused("OUTSIDE ahead of FULL", eight, x -> x.mark(10, 100), OUTSIDE);
        refused("OUTSIDE ahead of FULL", eight, x -> x.mark(10, -1), OUTSIDE);
    }

    private static void lostOfLongs() {
        Supplier<BarrelTaps> told = RefusalEdgeTest::told;
        check.says("LOST, where a long is answered, as for refusals");
        for (int v : new int[] {-1, LEAST, MOST}) {
            eachWay("worst's n", x -> x.worst(v, 0), LOST);
            eachWay("worst's which", x -> x.worst(1, v), LOST);
            eachWay("risk's n", x -> x.risk(0, v, 0, 0, 0), LOST);
            eachWay("risk's a", x -> x.risk(0, 1, v, 0, 0), LOST);
            eachWay("risk's b", x -> x.risk(0, 1, 0, v, 0), LOST);
            eachWay("risk's which", x -> x.risk(0, 1, 0, 0, v), LOST);
            eachWayClears("cell's lane", x -> x.cell(0, 0, v), LOST);
        }
        check.says("WORST on n DAYS (1 .. 10)");
        refused("of none", told, x -> x.worst(0, 0), LOST);
        refused("of 11", told, x -> x.worst(11, 1), LOST);
        refused("which", told, x -> x.worst(10, 2), LOST);
        check.says("n 0 .. 6, RAIN (0 .. 99 pails)");
        refused("n", told, x -> x.risk(0, 7, 0, 0, 0), LOST);
        refused("a", told, x -> x.risk(0, 1, 100, 0, 0), LOST);
        refused("b", told, x -> x.risk(0, 1, 0, 100, 0), LOST);
        refused("a, on no DAY", told, x -> x.risk(0, 0, 100, 0, 0), LOST);
        refused("b, on no DAY", told, x -> x.risk(0, 0, 0, -1, 0), LOST);
        refused("which", told, x -> x.risk(0, 0, 0, 0, 2), LOST);
        check.says("LOST: UNKNOWN, OUTSIDE: lane; FAULTS CAST (nothing is no CAST), NULL, INDEX");
        eachWayClears("cell's lane", x -> x.cell(0, 0, 3), LOST);
        lostBy("CAST", x -> x.cell(0, 0, 1), CAST);
        lostBy("NULL", x -> x.cell(1, 0, 1), NULL);
        lostBy("INDEX", x -> x.cell(0, LENGTH, 0), INDEX);
    }

    private static void lostBy(String what, Call call, int fault) {
        answers("cell: " + what, RefusalEdgeTest::told, call, LOST, fault);
        answers("cell: " + what, RefusalEdgeTest::bare, call, LOST, fault);
    }

    // ---- of two that both hold the first

    private static void orderOfRefusals() {
        Supplier<BarrelTaps> told = RefusalEdgeTest::told;
        Supplier<BarrelTaps> bare = RefusalEdgeTest::bare;
        check.says("REFUSALS, in the order in which a call's line tells them: UNKNOWN; OUTSIDE");
        refused("ofTap", told, x -> x.ofTap(TAPS, 5), UNKNOWN);
        refused("bore", told, x -> x.bore(TAPS, 10), UNKNOWN);
        refused("rain", told, x -> x.rain(10, 100), UNKNOWN);
        refused("highest", told, x -> x.highest(TAPS, 11), UNKNOWN);
        refused("thief", told, x -> x.thief(10, 0), UNKNOWN);
        refusedByRefusal("as", told, x -> x.as(TAPS, 3), UNKNOWN);
        eachWayClears("yard", x -> x.yard(4, 3, 0, 1), UNKNOWN);
        eachWayClears("sheet", x -> x.sheet(4, 3, 61), UNKNOWN);
        check.says("UNKNOWN; STATE: there is no YARD");
        refused("rain", bare, x -> x.rain(10, 0), UNKNOWN);
        refused("level", bare, x -> x.level(11), UNKNOWN);
        refused("over", bare, x -> x.over(10), UNKNOWN);
        refused("nobody", bare, x -> x.nobody(11), UNKNOWN);
        refused("mark", bare, x -> x.mark(11, 0), UNKNOWN);
        refused("rains", bare, x -> x.rains(10, 0), UNKNOWN);
        refused("rains' k", bare, x -> x.rains(0, -2), UNKNOWN);
        refused("thief", bare, x -> x.thief(10, 1), UNKNOWN);
        check.says("UNKNOWN; OUTSIDE; STATE: there is no YARD");
        refused("rain", bare, x -> x.rain(10, 100), UNKNOWN);
        refused("mark", bare, x -> x.mark(11, 100), UNKNOWN);
        refused("thief", bare, x -> x.thief(10, 10), UNKNOWN);
        check.says("OUTSIDE; STATE: there is no YARD");
        refused("rain", bare, x -> x.rain(0, 100), OUTSIDE);
        refused("law", bare, x -> x.law(3), OUTSIDE);
        refused("leak's height", bare, x -> x.leak(10, 0), OUTSIDE);
        refused("leak's pails", bare, x -> x.leak(0, 10), OUTSIDE);
        refused("can", bare, x -> x.can(11), OUTSIDE);
        refused("start", bare, x -> x.start(-1), OUTSIDE);
        refused("best's n", bare, x -> x.best(11, 0), OUTSIDE);
        refused("best's what", bare, x -> x.best(0, 2), OUTSIDE);
        refused("mark", bare, x -> x.mark(0, 100), OUTSIDE);
        refused("thief", bare, x -> x.thief(0, 0), OUTSIDE);
    }

    private static void stateAheadOfOutside() {
        check.says("begin: STATE: there is no YARD; OUTSIDE");
        for (int v : new int[] {-1, 0, 1, 100, LEAST, MOST}) {
            refused("begin", RefusalEdgeTest::bare, x -> x.begin(v), STATE);
        }
    }

    private static void orderOfFaultsOfYard() {
        check.says("yard: UNKNOWN; OUTSIDE: lane; FAULTS CAST (nothing is no CAST), NULL, SIZE, INDEX; -100 less it");
        eachWayClears("UNKNOWN ahead of SIZE", x -> x.yard(-1, 0, 0, -1), UNKNOWN);
        eachWayClears("OUTSIDE ahead of NULL", x -> x.yard(1, 3, 0, 1), OUTSIDE);
        eachWayClears("OUTSIDE ahead of CAST and SIZE", x -> x.yard(2, 3, 0, -1), OUTSIDE);
        eachWayClears("OUTSIDE ahead of INDEX", x -> x.yard(0, -1, -1, 1), OUTSIDE);
        eachWayFails("CAST", x -> x.yard(0, 1, 0, LENGTH), CAST);
        eachWayFails("CAST of a row of none", x -> x.yard(3, 0, 0, 0), CAST);
        eachWayFails("CAST ahead of SIZE", x -> x.yard(0, 2, 0, -1), CAST);
        eachWayFails("CAST ahead of INDEX", x -> x.yard(2, 0, 6, 1), CAST);
        for (int lane = 0; lane <= 2; lane++) {
            int l = lane;
            eachWayFails("nothing is no CAST", x -> x.yard(1, l, 0, 1), NULL);
            eachWayFails("NULL ahead of SIZE", x -> x.yard(1, l, 0, -1), NULL);
            eachWayFails("NULL ahead of INDEX", x -> x.yard(1, l, -1, 0), NULL);
        }
        eachWayFails("SIZE", x -> x.yard(0, 0, 0, -1), SIZE);
        eachWayFails("SIZE ahead of INDEX", x -> x.yard(0, 0, -1, -1), SIZE);
        eachWayFails("SIZE ahead of INDEX", x -> x.yard(0, 0, LENGTH + 1, LEAST), SIZE);
        eachWayFails("INDEX: one cell too many", x -> x.yard(0, 0, 0, LENGTH + 1), INDEX);
        eachWayFails("INDEX: one cell too far", x -> x.yard(0, 0, 1, LENGTH), INDEX);
        eachWayFails("INDEX: one cell too early", x -> x.yard(0, 0, -1, 1), INDEX);
        eachWayFails("INDEX: a sum that wraps", x -> x.yard(0, 0, MOST, MOST), INDEX);
        eachWayFails("INDEX: a sum that wraps", x -> x.yard(0, 0, 1, MOST), INDEX);
        eachWayFails("INDEX: a sum that wraps to 0", x -> x.yard(0, 0, LEAST, LENGTH), INDEX);
        eachWayFails("INDEX ahead of a FIRST FAULT", x -> x.yard(2, 1, 0, 6), INDEX);
        eachWayClears("a FIRST FAULT is the last", x -> x.yard(2, 1, 0, 5), -100);
    }

    private static void orderOfFaultsOfSheets() {
        check.says("sheet: UNKNOWN; OUTSIDE: lane, n above 60; SIZE");
        eachWayClears("UNKNOWN ahead of SIZE", x -> x.sheet(4, 0, -1), UNKNOWN);
        eachWayClears("OUTSIDE ahead of SIZE", x -> x.sheet(0, 3, -1), OUTSIDE);
        eachWayClears("OUTSIDE ahead of SIZE", x -> x.sheet(0, -1, LEAST), OUTSIDE);
        check.says("put: UNKNOWN; NULL; INDEX");
        eachWayClears("UNKNOWN ahead of INDEX", x -> x.put(4, -1, 0), UNKNOWN);
        eachWayFails("NULL", x -> x.put(1, 0, 0), NULL);
        eachWayFails("NULL ahead of INDEX", x -> x.put(1, -1, 0), NULL);
        eachWayFails("INDEX", x -> x.put(0, LENGTH, 0), INDEX);
        eachWayFails("INDEX", x -> x.put(0, -1, 0), INDEX);
        eachWayFails("INDEX", x -> x.put(0, LEAST, 0), INDEX);
        eachWayFails("INDEX", x -> x.put(0, MOST, 0), INDEX);
        eachWayFails("INDEX of a row of none", x -> x.put(3, 0, 0), INDEX);
        check.says("cell: UNKNOWN, OUTSIDE: lane; FAULTS CAST (nothing is no CAST), NULL, INDEX");
        eachWayClears("UNKNOWN ahead of INDEX", x -> x.cell(4, -1, 0), LOST);
        eachWayClears("OUTSIDE ahead of CAST", x -> x.cell(0, 0, 3), LOST);
        eachWayClears("OUTSIDE ahead of NULL", x -> x.cell(1, 0, 3), LOST);
        eachWayClears("OUTSIDE ahead of INDEX", x -> x.cell(0, -1, -1), LOST);
        lostBy("CAST ahead of INDEX", x -> x.cell(0, -1, 2), CAST);
        lostBy("CAST of a row of none", x -> x.cell(3, 0, 0), CAST);
        lostBy("nothing is no CAST", x -> x.cell(1, 0, 0), NULL);
        lostBy("NULL ahead of INDEX", x -> x.cell(1, -1, 2), NULL);
        lostBy("INDEX", x -> x.cell(0, -1, 0), INDEX);
        lostBy("INDEX", x -> x.cell(2, 5, 1), INDEX);
        lostBy("INDEX of a row of none", x -> x.cell(3, 0, 2), INDEX);
        lostBy("INDEX", x -> x.cell(0, MOST, 0), INDEX);
        orderOfFaultsOfCopy();
        check.says("as: UNKNOWN; OUTSIDE; CAST");
        refusedByRefusal("OUTSIDE ahead of CAST", RefusalEdgeTest::told, x -> x.as(0, 3), OUTSIDE);
        fails("CAST", RefusalEdgeTest::told, x -> x.as(0, 2), CAST);
        fails("CAST", RefusalEdgeTest::told, x -> x.as(0, 1), CAST);
        fails("CAST", RefusalEdgeTest::told, x -> x.as(1, 2), CAST);
    }

    private static void orderOfFaultsOfCopy() {
        check.says("copy: UNKNOWN; FAULTS NULL (the first, the other), CAST (unlike LANES), INDEX");
        eachWayClears("UNKNOWN ahead of NULL, the first", x -> x.copy(1, 0, 4, 0, 0), UNKNOWN);
        eachWayClears("UNKNOWN ahead of NULL, the other", x -> x.copy(4, 0, 1, 0, 0), UNKNOWN);
        eachWayClears("UNKNOWN ahead of INDEX", x -> x.copy(0, -1, -1, -1, -1), UNKNOWN);
        eachWayFails("NULL, the first", x -> x.copy(1, 0, 0, 0, 0), NULL);
        eachWayFails("NULL, the other", x -> x.copy(0, 0, 1, 0, 0), NULL);
        eachWayFails("NULL, both", x -> x.copy(1, 0, 1, 0, 0), NULL);
        eachWayFails("NULL ahead of INDEX", x -> x.copy(0, -1, 1, -1, -1), NULL);
        eachWayFails("NULL ahead of INDEX", x -> x.copy(1, -1, 0, -1, -1), NULL);
        eachWayFails("CAST", x -> x.copy(0, 0, 2, 0, 1), CAST);
        eachWayFails("CAST of none", x -> x.copy(2, 0, 3, 0, 0), CAST);
        eachWayFails("CAST ahead of INDEX", x -> x.copy(2, -1, 0, -1, -1), CAST);
        check.says("copy: INDEX: i, j, n below 0 or beyond");
        int[][] wrong = {{-1, 0, 1}, {0, -1, 1}, {0, 0, -1}, {0, 0, 6}, {5, 0, 1}, {0, 5, 1}, {1, 0, 5}, {0, 1, 5},
            {MOST, 0, 1}, {0, MOST, 1}, {0, 0, MOST}, {1, 1, MOST}, {LEAST, 0, 1}, {0, LEAST, 1}, {0, 0, LEAST},
            {MOST, MOST, MOST}, {5, 5, -5}};
        for (int[] w : wrong) {
            eachWayFails("INDEX", x -> x.copy(2, w[0], 2, w[1], w[2]), INDEX);
        }
    }

    private static void indexOfNone() {
        check.says("INDEX (of cells from i on also where i is not 0 .. how many there are, if none is taken, too)");
        for (int i : new int[] {-1, 6, LEAST, MOST}) {
            eachWayFails("yard of none", x -> x.yard(2, 1, i, 0), INDEX);
            eachWayFails("copy of none", x -> x.copy(2, i, 2, 0, 0), INDEX);
            eachWayFails("copy of none", x -> x.copy(2, 0, 2, i, 0), INDEX);
        }
        eachWayFails("yard of none, of a row of none", x -> x.yard(3, 2, 1, 0), INDEX);
        eachWayFails("copy of none, of a row of none", x -> x.copy(3, 1, 3, 0, 0), INDEX);
        eachWayFails("copy of none, to a row of none", x -> x.copy(3, 0, 3, 1, 0), INDEX);
        for (int i = 0; i <= 5; i++) {
            int at = i;
            eachWayClears("yard of none from " + i + " on", x -> x.yard(2, 1, at, 0), -100);
            eachWayClears("copy of none from " + i + " on", x -> x.copy(2, at, 2, 5 - at, 0), 0);
        }
        eachWayClears("yard of none, at the only place", x -> x.yard(3, 2, 0, 0), -100);
        eachWayClears("copy of none, at the only places", x -> x.copy(3, 0, 3, 0, 0), 0);
    }

    private static void sizeBelowNone() {
        check.says("4 SIZE (a length below 0)");
        for (int n : new int[] {-1, -60, LEAST}) {
            eachWayFails("sheet over a row", x -> x.sheet(0, 2, n), SIZE);
            eachWayFails("sheet over nothing", x -> x.sheet(1, 0, n), SIZE);
            eachWayFails("yard", x -> x.yard(0, 0, 0, n), SIZE);
        }
    }

    /** No line tells a change of them, so there is none; nor do they name FAULTS, so fault() stays. */
    private static void questionsChangeNothing() {
        check.says("how many, how high, how likely: questions change nothing");
        Call[] questions = {x -> x.ofTap(2, 4), x -> x.got(2, 9), x -> x.level(10), x -> x.over(9), x -> x.nobody(10),
            x -> x.dry(2), x -> x.can(10), x -> x.start(10), x -> x.best(10, 0), x -> x.best(10, 1),
            x -> x.highest(0, 10), x -> x.highest(2, 1), x -> x.worst(10, 0), x -> x.risk(1, 6, 0, 99, 0),
            x -> x.rains(0, -1), x -> x.rains(9, 99), x -> x.rains(3, 0), x -> x.thief(0, 1), x -> x.thief(9, 9),
            x -> x.back(0), x -> x.trace(), x -> x.fault(), x -> x.many(0), x -> x.many(4)};
        for (int k = 0; k < questions.length; k++) {
            BarrelTaps x = told();
            questions[k].on(x);
            check.due("fault() behind question " + k, x.fault(), SIZE);
            check.same("all behind question " + k, State.of(x), State.of(told()));
        }
    }
}
