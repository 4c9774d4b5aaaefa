import java.math.BigInteger;

/** The edges of promises 24 to 34: rows of none and of 60, cuts, both ends of a row, TRACE that wraps, fault(). */
public final class SheetsEdgeTest {
    private static final Check check = new Check("SheetsEdgeTest");
    private static final long LOST = Long.MIN_VALUE;

    public static void main(String[] args) {
        rowOfNone();
        rowOfSixty();
        zeroAtFirst();
        anotherRow();
        nothing();
        cutToItsLane();
        bothEnds();
        takenAsALane();
        copyOfNone();
        copyOfAll();
        copyInTheSameSheet();
        copyAtBothEnds();
        copyKeepsWhatIsCut();
        tellings();
        knocks();
        traceThatWraps();
        traceOfRefusedCalls();
        kinds();
        faultAheadOfAny();
        faultOfTheLatest();
        faultBehindRefusals();
        faultBehindCallsThatNameNone();
        manyWithoutYard();
        manyWithYard();
        check.end();
    }

    private static void answers(BarrelTaps x, String what, long got, long due, int fault) {
        check.due(what, got, due);
        check.due("fault() of " + what, x.fault(), fault);
    }

    private static BarrelTaps counting(int lane, int n) {
        BarrelTaps x = new BarrelTaps();
        x.sheet(1, lane, n);
        for (int i = 0; i < n; i++) {
            x.put(1, i, i + 1);
        }
        return x;
    }

    private static void rowIs(BarrelTaps x, int k, int lane, int... due) {
        for (int i = 0; i < due.length; i++) {
            check.due("cell " + i, x.cell(k, i, lane), due[i]);
        }
        check.due("a cell behind the last", x.cell(k, due.length, lane), LOST);
    }

    private static void rowOfNone() {
        check.says("a row of 0 .. 60 numbers: 0");
        for (int lane = 0; lane <= 2; lane++) {
            BarrelTaps x = new BarrelTaps();
            answers(x, "a row of none", x.sheet(0, lane, 0), 1, 0);
            answers(x, "has no cell", x.cell(0, 0, lane), LOST, 3);
            answers(x, "takes no cell", x.put(0, 0, 1), -13, 3);
            answers(x, "is no TEXT", x.yard(0, lane, 0, 0), -100, 0);
            answers(x, "is copied", x.copy(0, 0, 0, 0, 0), 0, 0);
            check.due("is not nothing", x.lose(0), 1);
            check.due("is lost once", x.lose(0), 0);
        }
    }

    private static void rowOfSixty() {
        check.says("a row of 0 .. 60 numbers: 60");
        for (int lane = 0; lane <= 2; lane++) {
            BarrelTaps x = new BarrelTaps();
            answers(x, "60", x.sheet(3, lane, 60), 1, 0);
            answers(x, "the last cell", x.put(3, 59, 7), 1, 0);
            answers(x, "the last cell", x.cell(3, 59, lane), 7, 0);
            answers(x, "behind it", x.put(3, 60, 7), -13, 3);
            answers(x, "behind it", x.cell(3, 60, lane), LOST, 3);
            answers(x, "61", x.sheet(3, lane, 61), -2, 0);
            answers(x, "-1", x.sheet(3, lane, -1), -14, 4);
            answers(x, "the row is as it was", x.cell(3, 59, lane), 7, 0);
            answers(x, "1", x.sheet(3, lane, 1), 1, 0);
            answers(x, "its only cell", x.cell(3, 0, lane), 0, 0);
            answers(x, "no other", x.cell(3, 1, lane), LOST, 3);
        }
    }

    private static void zeroAtFirst() {
        check.says("numbers (0 at first)");
        BarrelTaps x = counting(0, 60);
        check.due("a new row", x.sheet(1, 0, 60), 1);
        for (int i = 0; i < 60; i++) {
            check.due("cell " + i, x.cell(1, i, 0), 0);
        }
        x = counting(2, 5);
        x.sheet(1, 2, 2);
        x.sheet(1, 2, 5);
        rowIs(x, 1, 2, 0, 0, 0, 0, 0);
        x = counting(2, 5);
        x.lose(1);
        x.sheet(1, 2, 5);
        rowIs(x, 1, 2, 0, 0, 0, 0, 0);
    }

    private static void anotherRow() {
        check.says("A SHEET gets a new row: 1");
        BarrelTaps x = counting(0, 5);
        answers(x, "over an older one, of another LANE", x.sheet(1, 1, 3), 1, 0);
        rowIs(x, 1, 1, 0, 0, 0);
        answers(x, "the old LANE is gone", x.cell(1, 0, 0), LOST, 2);
        answers(x, "a number that no byte has", x.put(1, 0, 300), 1, 0);
        check.due("it is not cut", x.cell(1, 0, 1), 300);
        check.due("other SHEETS have nothing still", x.lose(0), 0);
        check.due("other SHEETS have nothing still", x.lose(2), 0);
    }

    private static void nothing() {
        check.says("SHEETS have nothing (at first); 1 NULL (there is nothing)");
        BarrelTaps x = counting(0, 5);
        check.due("lose", x.lose(1), 1);
        check.due("lose again", x.lose(1), 0);
        check.due("lose again", x.lose(1), 0);
        for (int k = 0; k < 4; k++) {
            answers(x, "put", x.put(k, 0, 1), -11, 1);
            answers(x, "cell", x.cell(k, 0, 0), LOST, 1);
            answers(x, "yard", x.yard(k, 0, 0, 0), -11, 1);
            answers(x, "copy", x.copy(k, 0, k, 0, 0), -11, 1);
        }
        check.due("lose -1", x.lose(-1), -1);
        check.due("lose 4", x.lose(4), -1);
        check.due("a row again", x.sheet(1, 0, 1), 1);
        check.due("is there", x.cell(1, 0, 0), 0);
    }

    private static void cutToItsLane() {
        check.says("what comes to a cell of it is cut to its LANE");
        BarrelTaps x = new BarrelTaps();
        int[][] bytes = {{127, 127}, {128, -128}, {129, -127}, {255, -1}, {256, 0}, {-1, -1}, {-128, -128}, {-129, 127},
            {-256, 0}, {32767, -1}, {65536, 0}, {Integer.MAX_VALUE, -1}, {Integer.MIN_VALUE, 0}, {383, 127}};
        int[][] shorts = {{128, 128}, {32767, 32767}, {32768, -32768}, {65535, -1}, {65536, 0}, {-1, -1},
            {-32768, -32768}, {-32769, 32767}, {Integer.MAX_VALUE, -1}, {Integer.MIN_VALUE, 0}, {98304, -32768}};
        int[] ints = {0, 128, 32768, 65536, -1, -32769, Integer.MAX_VALUE, Integer.MIN_VALUE};
        x.sheet(0, 0, 1);
        for (int[] v : bytes) {
            check.due("put " + v[0], x.put(0, 0, v[0]), 1);
            check.due("a byte of " + v[0], x.cell(0, 0, 0), v[1]);
        }
        x.sheet(0, 1, 1);
        for (int[] v : shorts) {
            check.due("put " + v[0], x.put(0, 0, v[0]), 1);
            check.due("a short of " + v[0], x.cell(0, 0, 1), v[1]);
        }
        x.sheet(0, 2, 1);
        for (int v : ints) {
            check.due("put " + v, x.put(0, 0, v), 1);
            check.due("an int", x.cell(0, 0, 2), v);
        }
    }

    private static void bothEnds() {
        check.says("Cell i of a SHEET becomes v: 1; INDEX");
        for (int lane = 0; lane <= 2; lane++) {
            BarrelTaps x = counting(lane, 3);
            answers(x, "the first", x.put(1, 0, 11), 1, 0);
            answers(x, "the last", x.put(1, 2, 13), 1, 0);
            rowIs(x, 1, lane, 11, 2, 13);
            answers(x, "ahead of the first", x.put(1, -1, 9), -13, 3);
            answers(x, "behind the last", x.put(1, 3, 9), -13, 3);
            answers(x, "far ahead", x.put(1, Integer.MIN_VALUE, 9), -13, 3);
            answers(x, "far behind", x.put(1, Integer.MAX_VALUE, 9), -13, 3);
            answers(x, "ahead of the first", x.cell(1, -1, lane), LOST, 3);
            answers(x, "far ahead", x.cell(1, Integer.MIN_VALUE, lane), LOST, 3);
            answers(x, "far behind", x.cell(1, Integer.MAX_VALUE, lane), LOST, 3);
            rowIs(x, 1, lane, 11, 2, 13);
        }
    }

    private static void takenAsALane() {
        check.says("taken as a row of a LANE: 2 CAST (it is of another lane)");
        for (int lane = 0; lane <= 2; lane++) {
            BarrelTaps x = counting(lane, 2);
            for (int as = 0; as <= 2; as++) {
                boolean is = as == lane;
                answers(x, "cell as " + as, x.cell(1, 1, as), is ? 2 : LOST, is ? 0 : 2);
                answers(x, "yard as " + as, x.yard(1, as, 0, 2), is ? -100 : -12, is ? 0 : 2);
            }
            answers(x, "as -1", x.cell(1, 1, -1), LOST, 0);
            answers(x, "as 3", x.cell(1, 1, 3), LOST, 0);
        }
    }

    private static void copyOfNone() {
        check.says("n cells of a SHEET from i on go to another one from j on: n, 0 of them");
        BarrelTaps x = counting(1, 4);
        x.sheet(2, 1, 2);
        for (int i = 0; i <= 4; i++) {
            for (int j = 0; j <= 2; j++) {
                answers(x, "none", x.copy(1, i, 2, j, 0), 0, 0);
            }
        }
        answers(x, "i too far", x.copy(1, 5, 2, 0, 0), -13, 3);
        answers(x, "j too far", x.copy(1, 0, 2, 3, 0), -13, 3);
        answers(x, "i below 0", x.copy(1, -1, 2, 0, 0), -13, 3);
        answers(x, "j below 0", x.copy(1, 0, 2, -1, 0), -13, 3);
        rowIs(x, 2, 1, 0, 0);
        rowIs(x, 1, 1, 1, 2, 3, 4);
        x.sheet(3, 0, 2);
        answers(x, "none, of unlike LANES", x.copy(1, 0, 3, 0, 0), -12, 2);
        answers(x, "none, to nothing", x.copy(1, 0, 0, 0, 0), -11, 1);
    }

    private static void copyOfAll() {
        check.says("n cells of a SHEET from i on go to another one from j on: n, all of them");
        BarrelTaps x = counting(0, 60);
        x.sheet(2, 0, 60);
        answers(x, "60", x.copy(1, 0, 2, 0, 60), 60, 0);
        for (int i = 0; i < 60; i++) {
            check.due("cell " + i, x.cell(2, i, 0), i + 1);
        }
        answers(x, "61", x.copy(1, 0, 2, 0, 61), -13, 3);
        answers(x, "60 from 1 on", x.copy(1, 1, 2, 0, 60), -13, 3);
        answers(x, "60 to 1 on", x.copy(1, 0, 2, 1, 60), -13, 3);
    }

    private static void copyInTheSameSheet() {
        check.says("go to another one (perhaps the same) from j on, as they were");
        for (int lane = 0; lane <= 2; lane++) {
            BarrelTaps x = counting(lane, 5);
            answers(x, "to later cells", x.copy(1, 0, 1, 1, 4), 4, 0);
            rowIs(x, 1, lane, 1, 1, 2, 3, 4);
            x = counting(lane, 5);
            answers(x, "to earlier cells", x.copy(1, 1, 1, 0, 4), 4, 0);
            rowIs(x, 1, lane, 2, 3, 4, 5, 5);
            x = counting(lane, 5);
            answers(x, "to the same cells", x.copy(1, 0, 1, 0, 5), 5, 0);
            rowIs(x, 1, lane, 1, 2, 3, 4, 5);
            answers(x, "from end to end", x.copy(1, 4, 1, 0, 1), 1, 0);
            rowIs(x, 1, lane, 5, 2, 3, 4, 5);
        }
    }

    private static void copyAtBothEnds() {
        check.says("INDEX: i, j, n below 0 or beyond");
        BarrelTaps x = counting(2, 4);
        x.sheet(2, 2, 6);
        answers(x, "the last of both", x.copy(1, 3, 2, 5, 1), 1, 0);
        answers(x, "the first of both", x.copy(1, 0, 2, 0, 1), 1, 0);
        rowIs(x, 2, 2, 1, 0, 0, 0, 0, 4);
        answers(x, "beyond the first", x.copy(1, 3, 2, 1, 2), -13, 3);
        answers(x, "beyond the other", x.copy(1, 0, 2, 5, 2), -13, 3);
        answers(x, "n is more than the first has", x.copy(1, 0, 2, 0, 5), -13, 3);
        answers(x, "n below 0", x.copy(1, 2, 2, 2, -1), -13, 3);
        answers(x, "n far below 0", x.copy(1, 0, 2, 0, Integer.MIN_VALUE), -13, 3);
        answers(x, "sums that wrap", x.copy(1, 2, 2, 2, Integer.MAX_VALUE), -13, 3);
        answers(x, "sums that wrap", x.copy(1, Integer.MAX_VALUE, 2, 0, 1), -13, 3);
        answers(x, "sums that wrap", x.copy(1, 0, 2, Integer.MAX_VALUE, 1), -13, 3);
        rowIs(x, 2, 2, 1, 0, 0, 0, 0, 4);
        rowIs(x, 1, 2, 1, 2, 3, 4);
    }

    private static void copyKeepsWhatIsCut() {
        check.says("what comes to a cell of it is cut to its LANE: as they were");
        int[][] due = {{-128, -1}, {-32640, -1}, {98432, -1}};
        for (int lane = 0; lane <= 2; lane++) {
            BarrelTaps x = new BarrelTaps();
            x.sheet(0, lane, 2);
            x.sheet(1, lane, 2);
            x.put(0, 0, 98432);
            x.put(0, 1, -1);
            x.copy(0, 0, 1, 0, 2);
            rowIs(x, 1, lane, due[lane]);
            x.put(0, 0, 5);
            rowIs(x, 1, lane, due[lane]);
        }
    }

    private static void tellings() {
        check.says("FAMILY (1): NEED. GREEDY (2): FAMILY's, and 100. OLDEST (3): GREEDY's, and FAMILY's");
        for (int need = 1; need <= 9; need += 8) {
            String text = "y991;f0" + need + "1;g0" + need + "1;o0" + need + "1";
            int[] due = {need, need + 100, 2 * need + 100};
            int[] trace = {1, 31 * 2 + 1, 31 * (31 * (31 * 3 + 2) + 1) + 1};
            for (int f = 0; f < 3; f++) {
                BarrelTaps x = Check.yard(text);
                check.due("tell(" + f + ")", x.tell(f), due[f]);
                check.due("trace", x.trace(), trace[f]);
            }
            BarrelTaps x = Check.yard(text);
            check.due("tell(3)", x.tell(3), -1);
            check.due("tell(-1)", x.tell(-1), -1);
            check.due("no trace", x.trace(), 0);
        }
    }

    private static void knocks() {
        check.says("KNOCKED at by a lent body (4): its number; OLDEST ones have their own (5): 70");
        BarrelTaps x = Check.yard("y991;f011;g011;o011;f011;g011;o011");
        int[] due = {0, 1, 70, 3, 4, 70};
        int trace = 0;
        for (int f = 0; f < 6; f++) {
            check.due("knock(" + f + ")", x.knock(f), due[f]);
            trace = 31 * trace + (due[f] == 70 ? 5 : 4);
            check.due("trace", x.trace(), trace);
        }
        check.due("knock(6)", x.knock(6), -1);
        check.due("knock(-1)", x.knock(-1), -1);
        check.due("trace", x.trace(), trace);
    }

    private static void traceThatWraps() {
        check.says("TRACE (an int that wraps, 0 at first, becomes 31 times it and the number)");
        BarrelTaps x = Check.yard("y991;f011;g011;o011");
        BigInteger exact = BigInteger.ZERO;
        int[][] bodies = {{1}, {2, 1}, {3, 2, 1, 1}};
        boolean below = false;
        for (int k = 0; k < 60; k++) {
            x.tell(k % 3);
            for (int body : bodies[k % 3]) {
                exact = exact.multiply(BigInteger.valueOf(31)).add(BigInteger.valueOf(body));
            }
            check.due("trace behind " + k, x.trace(), exact.intValue());
            x.knock(k % 3);
            exact = exact.multiply(BigInteger.valueOf(31)).add(BigInteger.valueOf(k % 3 == 2 ? 5 : 4));
            check.due("trace behind " + k, x.trace(), exact.intValue());
            below |= exact.intValue() < 0;
        }
        check.holds("it was below 0 now and then", below);
    }

    private static void traceOfRefusedCalls() {
        check.says("TRACE: refused calls leave no number in it, nor do other calls, nor does a TEXT that is taken");
        BarrelTaps x = Check.yard("y991;f011;g011;o011");
        x.tell(2);
        int trace = x.trace();
        x.tell(3);
        x.knock(-1);
        x.as(2, 2);
        x.as(0, 2);
        x.ofTap(2, 4);
        x.got(2, 0);
        x.rains(0, 0);
        check.due("trace", x.trace(), trace);
        x.yard(0, 0, 0, 9);
        check.due("trace behind another TEXT", x.trace(), trace);
    }

    private static void kinds() {
        check.says("CAST: it is none (each is a FAMILY, too; an OLDEST one is GREEDY)");
        int[][] due = {{-2, 1, -12, -12, -2}, {-2, 1, 1, -12, -2}, {-2, 1, 1, 1, -2}};
        BarrelTaps x = Check.yard("y991;f011;g011;o011");
        for (int f = 0; f < 3; f++) {
            for (int kind = -1; kind <= 3; kind++) {
                int answer = due[f][kind + 1];
                answers(x, "as(" + f + ", " + kind + ")", x.as(f, kind), answer, answer == -12 ? 2 : 0);
            }
        }
        answers(x, "as(3, 0)", x.as(3, 0), -1, 0);
        answers(x, "as(-1, 3)", x.as(-1, 3), -1, 0);
    }

    private static void faultAheadOfAny() {
        check.says("(0 ahead of any)");
        BarrelTaps x = new BarrelTaps();
        check.due("fault()", x.fault(), 0);
        check.due("fault()", x.fault(), 0);
        x.lose(0);
        x.many(9);
        x.tell(0);
        check.due("behind calls that name none", x.fault(), 0);
    }

    private static void faultOfTheLatest() {
        check.says("The FAULT of the latest call that names one: 0: it came to none");
        BarrelTaps x = Check.yard("y991;f011");
        answers(x, "NULL", x.put(1, 0, 0), -11, 1);
        answers(x, "CAST", x.as(0, 1), -12, 2);
        answers(x, "INDEX", x.put(0, 9, 0), -13, 3);
        answers(x, "SIZE", x.sheet(1, 0, -1), -14, 4);
        check.due("fault() stays", x.fault(), 4);
        int[] at = {0};
        Runnable[] none = {() -> x.yard(0, 0, 0, 9), () -> x.yard(0, 0, 0, 3), () -> x.sheet(1, 0, 1),
            () -> x.put(1, 0, 1), () -> x.cell(1, 0, 0), () -> x.copy(1, 0, 1, 0, 1), () -> x.as(0, 0)};
        for (Runnable call : none) {
            x.sheet(1, 0, -1);
            call.run();
            check.due("fault() behind call " + at[0]++, x.fault(), 0);
        }
    }

    private static void faultBehindRefusals() {
        check.says("0: it came to none, or was refused");
        BarrelTaps x = Check.yard("y991;f011");
        int[] at = {0};
        Runnable[] refused = {() -> x.yard(4, 0, 0, 9), () -> x.yard(0, 3, 0, 9), () -> x.sheet(4, 0, 1),
            () -> x.sheet(0, 3, 1), () -> x.sheet(0, 0, 61), () -> x.put(4, 0, 1), () -> x.cell(4, 0, 0),
            () -> x.cell(0, 0, 3), () -> x.copy(4, 0, 0, 0, 1), () -> x.copy(0, 0, 4, 0, 1), () -> x.as(1, 0),
            () -> x.as(0, 3)};
        for (Runnable call : refused) {
            x.sheet(1, 0, -1);
            check.due("fault() ahead", x.fault(), 4);
            call.run();
            check.due("fault() behind call " + at[0]++, x.fault(), 0);
        }
    }

    private static void faultBehindCallsThatNameNone() {
        check.says("the latest call that names one: others leave it as it was");
        BarrelTaps x = Check.yard("y991;f011");
        x.as(0, 2);
        Runnable[] others = {() -> x.ofTap(0, 0), () -> x.bore(0, 1), () -> x.begin(9), () -> x.rain(0, 1),
            () -> x.law(1), () -> x.leak(0, 1), () -> x.got(0, 0), () -> x.level(0), () -> x.over(0),
            () -> x.nobody(0), () -> x.dry(0), () -> x.can(1), () -> x.start(1), () -> x.best(1, 0),
            () -> x.highest(0, 1), () -> x.worst(1, 0), () -> x.risk(0, 1, 0, 1, 0), () -> x.mark(0, 9),
            () -> x.back(1), () -> x.rains(0, -1), () -> x.thief(0, 1), () -> x.lose(3), () -> x.lose(4),
            () -> x.tell(0), () -> x.knock(0), () -> x.trace(), () -> x.fault(), () -> x.many(0)};
        for (int k = 0; k < others.length; k++) {
            others[k].run();
            check.due("fault() behind call " + k, x.fault(), 2);
        }
    }

    private static void manyWithoutYard() {
        check.says("0 TAPS, 1 CAP, 2 PER, 3 the LAW, 4 MARKS (0 all without a YARD)");
        BarrelTaps x = new BarrelTaps();
        manyAre(x, 0, 0, 0, 0, 0);
        Check.read(x, "y00");
        x.law(2);
        x.mark(0, 0);
        manyAre(x, 0, 0, 0, 0, 0);
    }

    private static void manyWithYard() {
        check.says("How many: 0 TAPS, 1 CAP, 2 PER, 3 the LAW, 4 MARKS");
        BarrelTaps x = new BarrelTaps();
        Check.read(x, "y011;f011");
        manyAre(x, 1, 1, 1, 0, 0);
        Check.read(x, "y999;f011;f011;f011;f011;f011;f011");
        x.law(2);
        for (int k = 0; k < 9; k++) {
            x.mark(0, 0);
        }
        manyAre(x, 6, 99, 9, 2, 8);
        x.lose(0);
        manyAre(x, 6, 99, 9, 2, 8);
        check.due("many(-1)", x.many(-1), -2);
        check.due("many(5)", x.many(5), -2);
    }

    private static void manyAre(BarrelTaps x, int... due) {
        for (int what = 0; what < due.length; what++) {
            check.due("many(" + what + ")", x.many(what), due[what]);
        }
    }
}
