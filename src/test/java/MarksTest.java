/** Promises 19 to 23. */
public final class MarksTest {
    private static final Check check = new Check("MarksTest");

    public static void main(String[] args) {
        risks();
        riskRefusals();
        marks();
        whichRains();
        rainsOfLaterDays();
        thieves();
        eightMarks();
        refusals();
        check.end();
    }

    private static void risk(BarrelTaps x, int n, int a, int b, int upper, int lower) {
        check.due("risk of " + n + " days, upper", x.risk(0, n, a, b, 0), upper);
        check.due("risk of " + n + " days, lower", x.risk(0, n, a, b, 1), lower);
        check.due("risk of " + n + " days, turned, upper", x.risk(0, n, b, a, 0), upper);
        check.due("risk of " + n + " days, turned, lower", x.risk(0, n, b, a, 1), lower);
    }

    private static void risks() {
        BarrelTaps x = Check.yard("y201;f051");
        Check.rainRow(x, 20, 20, 20, 20, 20, 20, 20);
        risk(x, 0, 0, 99, 0, 1);
        risk(x, 1, 0, 5, 1, 2);
        risk(x, 2, 0, 5, 3, 4);
        risk(x, 2, 0, 10, 1, 2);
        risk(x, 2, 5, 5, 0, 1);
        risk(x, 3, 4, 4, 1, 1);
        risk(x, 6, 0, 5, 63, 64);
        risk(x, 6, 99, 99, 0, 1);
        // One 15 lasts for all three days, so only the first day's rain counts.
        risk(x, 3, 0, 15, 1, 2);
        x.begin(5);
        risk(x, 1, 0, 5, 0, 1);
        check.due("RAIN is as it was", x.rain(0, 20), 20);
        check.due("LEVEL is as it was", x.level(1), 15);
    }

    private static void riskRefusals() {
        BarrelTaps x = Check.yard("y201;f051");
        lost("no YARD", new BarrelTaps().risk(0, 0, 0, 0, 0));
        lost("TAP", x.risk(1, 0, 0, 0, 0));
        lost("TAP", x.risk(-1, 0, 0, 0, 0));
        lost("n", x.risk(0, 7, 0, 0, 0));
        lost("n", x.risk(0, -1, 0, 0, 0));
        lost("a", x.risk(0, 1, 100, 0, 0));
        lost("a", x.risk(0, 1, -1, 0, 0));
        lost("b", x.risk(0, 1, 0, 100, 0));
        lost("b", x.risk(0, 0, 0, -1, 0));
        lost("which", x.risk(0, 1, 0, 0, 2));
        lost("which", x.risk(0, 1, 0, 0, -1));
    }

    private static void lost(String what, long got) {
        check.due("risk: " + what, got, Long.MIN_VALUE);
    }

    private static void marks() {
        BarrelTaps x = Check.yard("y201;f051");
        for (int k = 0; k < 8; k++) {
            check.due("number of a mark", x.mark(k + 3, 99 - k), k);
            check.due("MARKS", x.many(4), k + 1);
        }
        check.due("FULL", x.mark(0, 0), -4);
        check.due("UNKNOWN ahead of FULL", x.mark(11, 0), -1);
        check.due("OUTSIDE ahead of FULL", x.mark(0, 100), -2);
        check.due("back(0)", x.back(0), 8);
        check.due("back(9)", x.back(9), -2);
        check.due("back(-1)", x.back(-1), -2);
        check.due("back(3)", x.back(3), 5);
        check.due("the next number", x.mark(0, 0), 5);
        check.due("back of all", x.back(6), 0);
        check.due("none is left", x.back(1), -2);
        check.due("MARKS", x.many(4), 0);
    }

    private static void rains(BarrelTaps x, int day, int... due) {
        check.due("rains(" + day + ", -1)", x.rains(day, -1), due.length);
        for (int k = 0; k < due.length; k++) {
            check.due("rains(" + day + ", " + k + ")", x.rains(day, k), due[k]);
        }
        check.due("rains: fewer", x.rains(day, due.length), -9);
        check.due("rains: far fewer", x.rains(day, Integer.MAX_VALUE), -9);
    }

    private static int[] row(int from, int to) {
        int[] row = new int[to - from + 1];
        for (int k = 0; k < row.length; k++) {
            row[k] = from + k;
        }
        return row;
    }

    private static void whichRains() {
        BarrelTaps x = Check.yard("y201;f051");
        x.begin(3);
        x.rain(0, 50);
        rains(x, 0, row(0, 99));
        rains(x, 9, row(0, 99));
        x.mark(1, 4);
        rains(x, 0, 6);
        x.back(1);
        x.mark(1, 15);
        rains(x, 0, row(17, 99));
        check.due("RAIN is as it was", x.rain(0, 50), 50);
        x.mark(2, 10);
        rains(x, 0, row(17, 99));
        rains(x, 1, 0);
        x.mark(2, 11);
        rains(x, 0);
        x.back(3);
        x.mark(1, 0);
        rains(x, 0, row(0, 2));
        x.mark(0, 4);
        rains(x, 0);
        x.back(1);
        x.mark(0, 3);
        rains(x, 0, row(0, 2));
        x.back(2);
        x.mark(1, 16);
        rains(x, 0);
    }

    private static void rainsOfLaterDays() {
        BarrelTaps x = Check.yard("y201;f051");
        x.mark(10, 2);
        rains(x, 9, 7);
        rains(x, 8, 12);
        rains(x, 7, 17);
        rains(x, 6);
        x.mark(9, 7);
        rains(x, 9);
        rains(x, 8, 12);
        BarrelTaps y = Check.yard("y201;f051");
        y.mark(3, 0);
        y.mark(3, 0);
        rains(y, 3, row(0, 99));
        y.mark(3, 1);
        rains(y, 3);
        rains(y, 2);
    }

    private static void thieves() {
        BarrelTaps x = Check.yard("y201;f551;f011");
        x.begin(20);
        check.due("without marks: who can", x.thief(0, 1), 3);
        x.mark(1, 12);
        check.due("either", x.thief(0, 2), 3);
        check.due("not so many", x.thief(0, 3), 0);
        check.due("not so few", x.thief(0, 1), 0);
        check.due("too late", x.thief(1, 2), 0);
        x.mark(0, 20);
        check.due("a mark ahead that is so", x.thief(0, 2), 3);
        x.mark(0, 19);
        check.due("a mark ahead that is not so", x.thief(0, 2), 0);
        x.back(3);
        x.mark(1, 5);
        check.due("all that the tap gives", x.thief(0, 9), 3);
        x.begin(19);
        x.back(1);
        x.mark(1, 4);
        check.due("the higher gives too few", x.thief(0, 9), 2);
        x.back(1);
        x.begin(20);
        x.mark(2, 6);
        check.due("a night ahead", x.thief(0, 2), 3);
        check.due("the night itself", x.thief(1, 2), 3);
        x.mark(1, 14);
        check.due("a night that is not so", x.thief(0, 2), 0);
        check.due("the night itself", x.thief(1, 2), 3);
        x.back(2);
        x.leak(0, 3);
        x.mark(1, 3);
        check.due("behind the leak", x.thief(0, 8), 2);
        x.back(1);
        check.due("the last night", x.thief(9, 1), 0);
        x.rain(9, 99);
        check.due("the last night", x.thief(9, 9), 2);
        x.mark(10, 2);
        check.due("the last mark", x.thief(9, 9), 2);
        check.due("LEVEL is as it was", x.level(10), 11);
        BarrelTaps six = Check.yard("y991;f011;f111;f211;f311;f411;f911");
        six.begin(99);
        check.due("six taps", six.thief(0, 9), 63);
    }

    private static void eightMarks() {
        BarrelTaps x = Check.yard("y201;f051");
        x.begin(20);
        for (int k = 0; k < 8; k++) {
            x.mark(2, 7);
        }
        check.due("MARKS", x.many(4), 8);
        check.due("a thief by all of them", x.thief(1, 3), 1);
        check.due("no thief by any of them", x.thief(1, 2), 0);
        rains(x, 0);
        x.begin(10);
        rains(x, 0, 7);
        x.back(1);
        x.mark(10, 1);
        rains(x, 0);
        check.due("no thief by the last of them", x.thief(1, 3), 0);
        rains(x, 9);
    }

    private static void refusals() {
        BarrelTaps none = new BarrelTaps();
        BarrelTaps x = Check.yard("y201;f051");
        check.due("mark: UNKNOWN", none.mark(11, 100), -1);
        check.due("mark: UNKNOWN", none.mark(-1, 0), -1);
        check.due("mark: OUTSIDE", none.mark(10, 100), -2);
        check.due("mark: OUTSIDE", x.mark(10, -1), -2);
        check.due("mark: STATE", none.mark(10, 99), -3);
        check.due("rains: DAY", none.rains(10, 0), -1);
        check.due("rains: DAY", x.rains(-1, 0), -1);
        check.due("rains: k", none.rains(0, -2), -1);
        check.due("rains: k", x.rains(0, Integer.MIN_VALUE), -1);
        check.due("rains: STATE", none.rains(9, -1), -3);
        check.due("thief: DAY", none.thief(10, 0), -1);
        check.due("thief: DAY", x.thief(-1, 1), -1);
        check.due("thief: OUTSIDE", none.thief(9, 0), -2);
        check.due("thief: OUTSIDE", x.thief(9, 10), -2);
        check.due("thief: STATE", none.thief(9, 9), -3);
        check.due("back: OUTSIDE", none.back(Integer.MIN_VALUE), -2);
        check.due("nothing changed", x.many(4), 0);
    }
}
