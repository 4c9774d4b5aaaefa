/** Promises 24 to 34. */
public final class SheetsTest {
    private static final Check check = new Check("SheetsTest");

    public static void main(String[] args) {
        rows();
        losing();
        cuts();
        cells();
        copies();
        copyRefusals();
        tellings();
        kinds();
        faultsLast();
        refusalsClearFaults();
        manys();
        check.end();
    }

    private static void faulty(BarrelTaps x, String what, long got, long want, int fault) {
        check.due(what, got, want);
        check.due("fault of " + what, x.fault(), fault);
    }

    private static void rows() {
        BarrelTaps x = new BarrelTaps();
        faulty(x, "sheet of none", x.sheet(0, 0, 0), 1, 0);
        faulty(x, "sheet of 60", x.sheet(3, 2, 60), 1, 0);
        faulty(x, "its last cell", x.put(3, 59, 7), 1, 0);
        faulty(x, "UNKNOWN", x.sheet(4, 3, -1), -1, 0);
        faulty(x, "UNKNOWN", x.sheet(-1, 0, 0), -1, 0);
        faulty(x, "OUTSIDE: lane ahead of SIZE", x.sheet(0, 3, -1), -2, 0);
        faulty(x, "OUTSIDE: lane", x.sheet(0, -1, 1), -2, 0);
        faulty(x, "OUTSIDE: n", x.sheet(3, 0, 61), -2, 0);
        faulty(x, "SIZE", x.sheet(3, 0, -1), -14, 4);
        faulty(x, "SIZE", x.sheet(3, 0, Integer.MIN_VALUE), -14, 4);
        faulty(x, "the row is as it was", x.cell(3, 59, 2), 7, 0);
        faulty(x, "a new row", x.sheet(3, 2, 60), 1, 0);
        faulty(x, "has 0 at first", x.cell(3, 59, 2), 0, 0);
        x.put(3, 0, 8);
        x.put(3, 5, 9);
        x.sheet(3, 2, 3);
        faulty(x, "its first cell", x.cell(3, 0, 2), 0, 0);
        faulty(x, "a shorter row", x.cell(3, 5, 2), Long.MIN_VALUE, 3);
        x.sheet(3, 2, 6);
        faulty(x, "a longer row", x.cell(3, 5, 2), 0, 0);
    }

    private static void losing() {
        BarrelTaps x = new BarrelTaps();
        x.sheet(2, 1, 5);
        check.due("lose", x.lose(2), 1);
        check.due("lose again", x.lose(2), 0);
        check.due("lose UNKNOWN", x.lose(4), -1);
        check.due("lose UNKNOWN", x.lose(-1), -1);
        faulty(x, "there is nothing", x.put(2, 0, 1), -11, 1);
        check.due("lose names no fault", x.lose(2), 0);
        check.due("fault is kept", x.fault(), 1);
    }

    private static void cuts() {
        BarrelTaps x = new BarrelTaps();
        int[] given = {127, 128, -129, 255, 32768, -32769, 65535, Integer.MIN_VALUE, Integer.MAX_VALUE};
        for (int lane = 0; lane <= 2; lane++) {
            x.sheet(lane, lane, 2);
            for (int v : given) {
                long due = lane == 0 ? (byte) v : lane == 1 ? (short) v : v;
                faulty(x, "put " + v, x.put(lane, 1, v), 1, 0);
                faulty(x, "cell of " + v, x.cell(lane, 1, lane), due, 0);
                faulty(x, "the other cell", x.cell(lane, 0, lane), 0, 0);
            }
        }
        faulty(x, "put: UNKNOWN", x.put(4, 99, 0), -1, 0);
        faulty(x, "put: UNKNOWN", x.put(-1, 0, 0), -1, 0);
        faulty(x, "put: NULL ahead of INDEX", x.put(3, 99, 0), -11, 1);
        faulty(x, "put: INDEX", x.put(0, 2, 0), -13, 3);
        faulty(x, "put: INDEX", x.put(0, -1, 0), -13, 3);
        faulty(x, "put: INDEX", x.put(0, Integer.MAX_VALUE, 0), -13, 3);
        x.sheet(3, 0, 0);
        faulty(x, "put: INDEX of none", x.put(3, 0, 0), -13, 3);
    }

    private static void cells() {
        BarrelTaps x = new BarrelTaps();
        long lost = Long.MIN_VALUE;
        x.sheet(0, 1, 3);
        x.put(0, 2, 77);
        faulty(x, "cell", x.cell(0, 2, 1), 77, 0);
        faulty(x, "cell: UNKNOWN", x.cell(4, 0, 0), lost, 0);
        faulty(x, "cell: CAST ahead of INDEX", x.cell(0, 9, 0), lost, 2);
        faulty(x, "cell: UNKNOWN", x.cell(-1, 0, 0), lost, 0);
        faulty(x, "cell: CAST", x.cell(0, 2, 2), lost, 2);
        faulty(x, "cell: OUTSIDE", x.cell(0, 2, 3), lost, 0);
        faulty(x, "cell: OUTSIDE ahead of NULL", x.cell(1, 2, -1), lost, 0);
        faulty(x, "cell: NULL", x.cell(1, 9, 2), lost, 1);
        faulty(x, "cell: INDEX", x.cell(0, 3, 1), lost, 3);
        faulty(x, "cell: INDEX", x.cell(0, -1, 1), lost, 3);
    }

    private static void fill(BarrelTaps x, int k, int lane, int n) {
        x.sheet(k, lane, n);
        for (int i = 0; i < n; i++) {
            x.put(k, i, 10 * k + i);
        }
    }

    private static void row(BarrelTaps x, int k, int lane, int... due) {
        for (int i = 0; i < due.length; i++) {
            check.due("cell " + i + " of sheet " + k, x.cell(k, i, lane), due[i]);
        }
    }

    private static void copies() {
        BarrelTaps x = new BarrelTaps();
        fill(x, 1, 0, 6);
        fill(x, 2, 0, 4);
        faulty(x, "copy", x.copy(1, 2, 2, 1, 3), 3, 0);
        row(x, 2, 0, 20, 12, 13, 14);
        row(x, 1, 0, 10, 11, 12, 13, 14, 15);
        faulty(x, "copy of none", x.copy(1, 6, 2, 4, 0), 0, 0);
        faulty(x, "copy of all", x.copy(2, 0, 1, 0, 4), 4, 0);
        row(x, 1, 0, 20, 12, 13, 14, 14, 15);
        fill(x, 1, 0, 6);
        faulty(x, "copy up within one", x.copy(1, 0, 1, 1, 5), 5, 0);
        row(x, 1, 0, 10, 10, 11, 12, 13, 14);
        fill(x, 1, 0, 6);
        faulty(x, "copy down within one", x.copy(1, 1, 1, 0, 5), 5, 0);
        row(x, 1, 0, 11, 12, 13, 14, 15, 15);
    }

    private static void copyRefusals() {
        BarrelTaps x = new BarrelTaps();
        fill(x, 0, 0, 6);
        fill(x, 1, 0, 4);
        fill(x, 2, 1, 4);
        faulty(x, "copy: UNKNOWN", x.copy(4, 0, 3, 0, 0), -1, 0);
        faulty(x, "copy: UNKNOWN", x.copy(3, 0, -1, 0, 0), -1, 0);
        faulty(x, "copy: NULL, the first", x.copy(3, 9, 0, 9, 9), -11, 1);
        faulty(x, "copy: NULL, the other", x.copy(2, 9, 3, 9, 9), -11, 1);
        faulty(x, "copy: CAST ahead of INDEX", x.copy(2, 9, 0, 9, 9), -12, 2);
        faulty(x, "copy: CAST of none", x.copy(0, 0, 2, 0, 0), -12, 2);
        int most = Integer.MAX_VALUE;
        int[][] wrong = {{-1, 0, 1}, {0, -1, 1}, {0, 0, -1}, {0, 0, 5}, {3, 0, 4}, {0, 1, 4}, {7, 0, 0}, {0, 5, 0},
            {-1, 0, 0}, {0, -1, 0}, {1, 1, most}, {most, 0, most}, {0, most, 1}, {0, 0, Integer.MIN_VALUE}};
        for (int[] w : wrong) {
            faulty(x, "copy: INDEX", x.copy(0, w[0], 1, w[1], w[2]), -13, 3);
        }
        row(x, 1, 0, 10, 11, 12, 13);
    }

    private static void tellings() {
        BarrelTaps x = Check.yard("y993;f019;g978;o657");
        int trace = 0;
        check.due("tell of a family", x.tell(0), 1);
        trace = 31 * trace + 1;
        check.due("trace", x.trace(), trace);
        check.due("tell of a greedy one", x.tell(1), 107);
        trace = 31 * (31 * trace + 2) + 1;
        check.due("trace", x.trace(), trace);
        check.due("tell of an oldest one", x.tell(2), 110);
        trace = 31 * (31 * (31 * (31 * trace + 3) + 2) + 1) + 1;
        check.due("trace", x.trace(), trace);
        check.due("knock at a family", x.knock(0), 0);
        trace = 31 * trace + 4;
        check.due("trace", x.trace(), trace);
        check.due("knock at a greedy one", x.knock(1), 1);
        trace = 31 * trace + 4;
        check.due("trace", x.trace(), trace);
        check.due("knock at an oldest one", x.knock(2), 70);
        trace = 31 * trace + 5;
        check.due("trace", x.trace(), trace);
        check.due("tell: UNKNOWN", x.tell(3), -1);
        check.due("tell: UNKNOWN", x.tell(-1), -1);
        check.due("knock: UNKNOWN", x.knock(3), -1);
        check.due("knock: UNKNOWN", x.knock(-1), -1);
        check.due("trace stays", x.trace(), trace);
        check.due("tell without a YARD", new BarrelTaps().tell(0), -1);
        check.due("knock without a YARD", new BarrelTaps().knock(0), -1);
    }

    private static void kinds() {
        BarrelTaps x = Check.yard("y993;f019;g978;o657");
        for (int f = 0; f < 3; f++) {
            for (int kind = 0; kind <= 2; kind++) {
                boolean is = kind <= f;
                faulty(x, "as(" + f + ", " + kind + ")", x.as(f, kind), is ? 1 : -12, is ? 0 : 2);
            }
        }
        x.as(0, 1);
        faulty(x, "as: UNKNOWN", x.as(3, 9), -1, 0);
        x.as(0, 1);
        faulty(x, "as: OUTSIDE", x.as(0, 3), -2, 0);
        faulty(x, "as: OUTSIDE", x.as(0, -1), -2, 0);
        faulty(x, "as: UNKNOWN", x.as(-1, 0), -1, 0);
        BarrelTaps none = new BarrelTaps();
        faulty(none, "as without a YARD", none.as(0, 0), -1, 0);
    }

    private static void faultsLast() {
        BarrelTaps x = Check.yard("y993;f019");
        x.as(0, 2);
        check.due("fault", x.fault(), 2);
        check.due("fault again", x.fault(), 2);
        x.ofTap(9, 9);
        x.bore(9, 9);
        x.begin(-1);
        x.rain(10, 0);
        x.law(9);
        x.leak(10, 0);
        x.got(0, 0);
        x.level(0);
        x.over(0);
        x.nobody(0);
        x.dry(0);
        x.can(1);
        x.start(1);
        x.best(1, 0);
        x.highest(0, 1);
        x.worst(0, 0);
        x.risk(0, 9, 0, 0, 0);
        x.mark(11, 0);
        x.back(9);
        x.rains(0, -1);
        x.thief(0, 0);
        x.lose(9);
        x.tell(0);
        x.knock(0);
        x.trace();
        x.many(9);
        check.due("fault behind calls that name none", x.fault(), 2);
        x.copy(0, 0, 0, 0, 0);
        check.due("fault behind one that came to none", x.fault(), 0);
    }

    /** A refused call that names a fault leaves none behind it, whatever was ahead. */
    private static void refusalsClearFaults() {
        BarrelTaps x = Check.yard("y993;f019");
        x.sheet(1, 0, -1);
        faulty(x, "sheet UNKNOWN", x.sheet(4, 0, 0), -1, 0);
        x.sheet(1, 0, -1);
        faulty(x, "sheet OUTSIDE", x.sheet(0, 0, 61), -2, 0);
        x.sheet(1, 0, -1);
        faulty(x, "put UNKNOWN", x.put(4, 0, 0), -1, 0);
        x.sheet(1, 0, -1);
        faulty(x, "put", x.put(0, 0, 0), 1, 0);
        x.sheet(1, 0, -1);
        faulty(x, "sheet", x.sheet(2, 0, 0), 1, 0);
        x.sheet(1, 0, -1);
        faulty(x, "cell UNKNOWN", x.cell(4, 0, 0), Long.MIN_VALUE, 0);
        x.sheet(1, 0, -1);
        faulty(x, "cell OUTSIDE", x.cell(0, 0, 3), Long.MIN_VALUE, 0);
        x.sheet(1, 0, -1);
        faulty(x, "copy UNKNOWN", x.copy(4, 0, 0, 0, 0), -1, 0);
        x.sheet(1, 0, -1);
        faulty(x, "as OUTSIDE", x.as(0, 3), -2, 0);
        x.sheet(1, 0, -1);
        faulty(x, "yard UNKNOWN", x.yard(4, 0, 0, 0), -1, 0);
        x.sheet(1, 0, -1);
        faulty(x, "yard OUTSIDE", x.yard(0, 3, 0, 0), -2, 0);
        x.sheet(1, 0, -1);
        faulty(x, "yard's FIRST FAULT", x.yard(0, 0, 0, 0), -100, 0);
    }

    private static void manys() {
        BarrelTaps x = Check.yard("y547;f019;g978;o657");
        x.law(2);
        x.mark(0, 0);
        x.mark(0, 0);
        int[] due = {3, 54, 7, 2, 2};
        for (int what = 0; what < due.length; what++) {
            check.due("many(" + what + ")", x.many(what), due[what]);
        }
        check.due("many: OUTSIDE", x.many(5), -2);
        check.due("many: OUTSIDE", x.many(-1), -2);
    }
}
