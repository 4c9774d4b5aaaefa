/** The edges of promises 19 to 23: shares of 0 and of 1, no MARK and eight, RAINS that are none and all, THIEF. */
public final class MarksEdgeTest {
    private static final Check check = new Check("MarksEdgeTest");

    public static void main(String[] args) {
        riskOnNoDay();
        riskOnSixDays();
        riskByLikeRains();
        riskOfLeastAndGreatestRains();
        riskInLeastTerms();
        riskLeavesTheRainOut();
        riskOnSomeDay();
        noMark();
        eightMarks();
        takenBack();
        boundsOfMarks();
        rainsThatAreAll();
        rainsThatAreNone();
        rainsThatAreFewer();
        rainsOfFirstAndLastDay();
        rainsWithAllElseAsItIs();
        thiefOfOneAndOfNine();
        thiefThatIsNobody();
        thiefAsASet();
        thiefBehindTheLeak();
        thiefOfFirstAndLastDay();
        check.end();
    }

    private static BarrelTaps yard(String text, int water) {
        BarrelTaps x = Check.yard(text);
        x.begin(water);
        return x;
    }

    private static void risk(String what, BarrelTaps x, int n, int a, int b, long upper, long lower) {
        check.due(what + ": upper", x.risk(0, n, a, b, 0), upper);
        check.due(what + ": lower", x.risk(0, n, a, b, 1), lower);
        check.due(what + ": upper, turned", x.risk(0, n, b, a, 0), upper);
        check.due(what + ": lower, turned", x.risk(0, n, b, a, 1), lower);
    }

    private static void riskOnNoDay() {
        check.says("RISK on n DAYS (n 0 .. 6): 0");
        risk("no DAY, DRY on none", yard("y991;f091", 0), 0, 0, 99, 0, 1);
        risk("no DAY, a full barrel", yard("y991;f091", 99), 0, 0, 0, 0, 1);
        check.due("-1", yard("y991;f091", 0).risk(0, -1, 0, 0, 0), Long.MIN_VALUE);
    }

    private static void riskOnSixDays() {
        check.says("RISK on n DAYS (n 0 .. 6): 6");
        BarrelTaps x = yard("y991;f011", 0);
        risk("all must be wet", x, 6, 0, 1, 63, 64);
        x.begin(5);
        risk("one must be wet", x, 6, 0, 1, 1, 64);
        x.begin(4);
        risk("two must be wet", x, 6, 0, 1, 7, 64);
        x.begin(6);
        risk("none must be wet", x, 6, 0, 1, 0, 1);
        check.due("7", x.risk(0, 7, 0, 1, 0), Long.MIN_VALUE);
    }

    private static void riskByLikeRains() {
        check.says("the RAIN is one of two told numbers, all such rows alike: like numbers");
        BarrelTaps x = yard("y991;f051", 0);
        for (int n = 1; n <= 6; n++) {
            risk("just its NEED on " + n, x, n, 5, 5, 0, 1);
            risk("a pail too few on " + n, x, n, 4, 4, 1, 1);
        }
    }

    private static void riskOfLeastAndGreatestRains() {
        check.says("RAIN (0 .. 99 pails)");
        BarrelTaps x = yard("y991;f091", 0);
        risk("0 and 0", x, 1, 0, 0, 1, 1);
        risk("0 and 99", x, 1, 0, 99, 1, 2);
        risk("99 and 99", x, 6, 99, 99, 0, 1);
        risk("0 and 99 on 6: the first counts", x, 6, 0, 99, 1, 2);
        BarrelTaps small = yard("y091;f091", 0);
        risk("what runs OVER is lost", small, 2, 0, 99, 3, 4);
    }

    private static void riskInLeastTerms() {
        check.says("the share of those rows by which it is DRY on some of these DAYS, in least terms");
        BarrelTaps x = yard("y991;f011", 0);
        int[] lower = {1, 2, 4, 8, 16, 32, 64};
        for (int n = 1; n <= 6; n++) {
            risk("all but one row", x, n, 0, 1, lower[n] - 1, lower[n]);
        }
        x.begin(1);
        risk("DRY if both are 0", x, 2, 0, 1, 1, 4);
        risk("DRY if two of three are 0", x, 3, 0, 1, 1, 2);
        x.begin(0);
        // Of 8 rows three leave it wet: 2 2 0, 2 2 2, 2 0 2.
        risk("2 pails last for two DAYS", x, 3, 0, 2, 5, 8);
        risk("of 4 rows 2", x, 2, 0, 2, 1, 2);
    }

    private static void riskLeavesTheRainOut() {
        check.says("on each of DAYS 0 .. n less 1 the RAIN is one of two told numbers");
        BarrelTaps x = yard("y991;f051", 0);
        for (int day = 0; day < 10; day++) {
            x.rain(day, 99);
        }
        risk("the RAIN that was told is not asked", x, 6, 0, 0, 1, 1);
        risk("nor on one DAY", x, 1, 4, 4, 1, 1);
        check.due("RAIN is as it was", x.rain(0, 99), 99);
        x.leak(0, 9);
        risk("the LEAK counts", x, 2, 14, 5, 0, 1);
        risk("the LEAK counts", x, 2, 14, 4, 3, 4);
        BarrelTaps two = yard("y991;f051;f151", 0);
        risk("from above the other draws first", two, 1, 6, 10, 1, 2);
        two.law(1);
        risk("by the LAW", two, 1, 6, 10, 0, 1);
    }

    private static void riskOnSomeDay() {
        check.says("it is DRY on some of these DAYS");
        BarrelTaps x = yard("y991;f051", 5);
        risk("not DRY on DAY 0, DRY on DAY 1", x, 2, 0, 0, 1, 1);
        x.begin(0);
        risk("DRY on DAY 0 alone counts", x, 2, 0, 10, 1, 2);
        x.begin(4);
        risk("a pail too few", x, 1, 0, 1, 1, 2);
    }

    private static void noMark() {
        check.says("MARKS: none at first");
        BarrelTaps x = yard("y991;f051", 9);
        check.due("MARKS", x.many(4), 0);
        check.due("none is taken back", x.back(0), 0);
        check.due("there is none to take back", x.back(1), -2);
        check.due("all RAINS", x.rains(4, -1), 100);
        check.due("whoever gives a pail", x.thief(0, 1), 1);
    }

    private static void eightMarks() {
        check.says("MARKS, 8 at most, numbered by how many there are");
        BarrelTaps x = yard("y991;f051", 9);
        for (int k = 0; k < 8; k++) {
            check.due("its number", x.mark(0, 9), k);
            check.due("MARKS", x.many(4), k + 1);
        }
        check.due("a ninth", x.mark(0, 9), -4);
        check.due("MARKS", x.many(4), 8);
        check.due("one back", x.back(1), 7);
        check.due("the eighth again", x.mark(1, 4), 7);
        check.due("FULL again", x.mark(1, 4), -4);
        check.due("all are so", x.rains(0, -1), 1);
        check.due("the last one counts", x.rains(0, 0), 0);
        check.due("another TEXT", x.yard(0, 0, 0, 9), 1);
        check.due("the first number", x.mark(0, 0), 0);
    }

    private static void takenBack() {
        check.says("The last k MARKS (0 .. as many as there are) are taken back: how many are left");
        for (int k = 0; k <= 8; k++) {
            BarrelTaps x = yard("y991;f051", 9);
            for (int m = 0; m < 8; m++) {
                x.mark(0, m == 0 ? 9 : 8);
            }
            check.due("none fits all", x.rains(0, -1), 0);
            check.due("one more than there are", x.back(9), -2);
            check.due("below 0", x.back(-1), -2);
            check.due("back(" + k + ")", x.back(k), 8 - k);
            check.due("MARKS", x.many(4), 8 - k);
            check.due("the last are gone, not the first", x.rains(0, -1), k >= 7 ? 100 : 0);
            check.due("the next number", x.mark(0, 9), k == 0 ? -4 : 8 - k);
        }
        BarrelTaps x = yard("y991;f051", 9);
        x.mark(1, 50);
        check.due("all", x.back(1), 0);
        check.due("it is forgotten", x.rains(0, -1), 100);
        x.mark(0, 9);
        check.due("and does not come back", x.rains(0, -1), 100);
    }

    private static void boundsOfMarks() {
        check.says("UNKNOWN: day (0 .. 10); OUTSIDE: v (0 .. 99)");
        BarrelTaps x = yard("y991;f051", 9);
        check.due("day -1", x.mark(-1, 0), -1);
        check.due("day 11", x.mark(11, 0), -1);
        check.due("v -1", x.mark(0, -1), -2);
        check.due("v 100", x.mark(0, 100), -2);
        check.due("none of them is one", x.many(4), 0);
        check.due("the least", x.mark(0, 0), 0);
        check.due("the greatest", x.mark(10, 99), 1);
        x.back(2);
        BarrelTaps small = yard("y011;f011", 0);
        check.due("more than CAP is no fault", small.mark(0, 99), 0);
        check.due("but never so", small.rains(0, -1), 0);
    }

    private static void rainsAre(String what, BarrelTaps x, int day, int from, int to) {
        int many = to - from + 1;
        check.due(what + ": how many", x.rains(day, -1), many);
        check.due(what + ": the first", x.rains(day, 0), many > 0 ? from : -9);
        check.due(what + ": the last", x.rains(day, Math.max(0, many - 1)), many > 0 ? to : -9);
        check.due(what + ": one more", x.rains(day, Math.max(0, many)), -9);
    }

    private static void rainsThatAreAll() {
        check.says("RAINS: numbers 0 .. 99");
        BarrelTaps x = yard("y991;f051", 9);
        for (int k = 0; k < 100; k++) {
            check.due("the " + k + "th, rising", x.rains(0, k), k);
        }
        check.due("a hundredth", x.rains(0, 100), -9);
        check.due("very far", x.rains(0, Integer.MAX_VALUE), -9);
        check.due("how many", x.rains(0, -1), 100);
        x.mark(0, 9);
        rainsAre("a MARK ahead of the DAY that is so", x, 0, 0, 99);
        x.mark(3, 0);
        rainsAre("MARKS ahead of a later DAY that are so", x, 3, 0, 99);
        BarrelTaps low = yard("y011;f111", 1);
        low.mark(1, 1);
        rainsAre("a barrel that is full", low, 0, 0, 99);
    }

    private static void rainsThatAreNone() {
        check.says("NONE: there are fewer");
        BarrelTaps x = yard("y501;f051", 9);
        x.mark(0, 8);
        for (int day = 0; day < 10; day++) {
            rainsAre("a MARK ahead of all DAYS that is not so", x, day, 0, -1);
        }
        x.back(1);
        x.mark(1, 46);
        rainsAre("more than can be left", x, 0, 0, -1);
        x.back(1);
        x.mark(1, 3);
        rainsAre("less than must be left", x, 0, 0, -1);
        x.back(1);
        x.mark(5, 4);
        rainsAre("a MARK ahead of a later DAY", x, 5, 0, -1);
        x.back(1);
        x.mark(1, 10);
        x.mark(1, 11);
        rainsAre("two that are never both so", x, 0, 0, -1);
    }

    private static void rainsThatAreFewer() {
        check.says("the k-th, rising; NONE: there are fewer");
        BarrelTaps x = yard("y501;f051", 9);
        x.mark(1, 4);
        rainsAre("the least: 0", x, 0, 0, 0);
        x.back(1);
        x.mark(1, 9);
        rainsAre("the LEVEL stays as it was", x, 0, 5, 5);
        x.back(1);
        x.mark(1, 8);
        rainsAre("it sinks by a pail", x, 0, 4, 4);
        x.back(1);
        x.mark(1, 10);
        rainsAre("it rises by a pail", x, 0, 6, 6);
        x.back(1);
        x.mark(1, 44);
        rainsAre("one", x, 0, 40, 40);
        x.back(1);
        x.mark(1, 45);
        rainsAre("all that fill the barrel", x, 0, 41, 99);
        x.begin(0);
        rainsAre("all that fill it from none", x, 0, 50, 99);
        BarrelTaps y = yard("y991;f051", 0);
        y.mark(1, 94);
        rainsAre("the greatest: 99", y, 0, 99, 99);
        y.back(1);
        y.mark(1, 0);
        rainsAre("all that are drawn", y, 0, 0, 5);
    }

    private static void rainsOfFirstAndLastDay() {
        check.says("RAINS of a DAY: by which, as the RAIN of a DAY, all MARKS are so");
        BarrelTaps x = yard("y991;f011", 5);
        x.mark(10, 3);
        rainsAre("the last DAY", x, 9, 4, 4);
        rainsAre("the first DAY", x, 0, 8, 8);
        rainsAre("a DAY between", x, 5, 8, 8);
        x.mark(9, 4);
        rainsAre("the last DAY, but a MARK ahead of it", x, 9, 0, -1);
        rainsAre("the DAY ahead of it", x, 8, 5, 5);
        rainsAre("the first DAY, by both", x, 0, 8, 8);
        check.due("DAY 10", x.rains(10, 0), -1);
        check.due("DAY -1", x.rains(-1, 0), -1);
        check.due("k -2", x.rains(0, -2), -1);
    }

    private static void rainsWithAllElseAsItIs() {
        check.says("all else as it is");
        BarrelTaps x = yard("y991;f011", 5);
        Check.rainRow(x, 50, 2, 7);
        x.mark(3, 20);
        rainsAre("DAY 0: its own RAIN is not asked", x, 0, 9, 9);
        rainsAre("DAY 1: 54, less 1, is more", x, 1, 0, -1);
        check.due("RAIN is as it was", x.rain(0, 50), 50);
        x.leak(0, 2);
        rainsAre("by a LEAK of 2", x, 0, 15, 15);
        x.law(2);
        rainsAre("by another LAW", x, 0, 15, 15);
        check.due("LEVEL is as it was", x.level(1), 52);
    }

    private static void thiefOfOneAndOfNine() {
        check.says("so many pails (1 .. 9)");
        BarrelTaps x = yard("y991;f011", 20);
        for (int v = 1; v <= 9; v++) {
            x.mark(1, 19 - v);
            check.due("of " + v, x.thief(0, v), 1);
            check.due("of one more", x.thief(0, v + 1), v == 9 ? -2 : 0);
            check.due("of one less", x.thief(0, v - 1), v == 1 ? -2 : 0);
            x.back(1);
        }
        check.due("of 0", x.thief(0, 0), -2);
        check.due("of 10", x.thief(0, 10), -2);
        check.says("(its TAP gave so many then)");
        for (int v = 1; v <= 9; v++) {
            BarrelTaps y = yard("y992;f312", 6 + v + 1);
            check.due("just as many as it gave", y.thief(0, v), 1);
            y.begin(6 + v);
            check.due("one more than it gave", y.thief(0, v), 0);
        }
    }

    private static void thiefThatIsNobody() {
        check.says("THIEF as a set: the empty one");
        BarrelTaps x = yard("y991;f011;f911", 5);
        x.mark(0, 4);
        check.due("a MARK that is not so, whoever drew", x.thief(0, 1), 0);
        x.back(1);
        x.mark(1, 4);
        check.due("MARKS that are so, if nobody drew", x.thief(0, 1), 0);
        x.back(1);
        x.begin(0);
        check.due("nothing to draw", x.thief(0, 1), 0);
        check.due("nothing to draw on the last DAY", x.thief(9, 9), 0);
    }

    private static void thiefAsASet() {
        check.says("Sets are told as bits (bit k for number k)");
        BarrelTaps x = yard("y991;f911;f111;f911;f911;f911;f211", 14);
        // On DAY 0 each draws a pail, 8 are left.
        check.due("LEVEL", x.level(1), 8);
        check.due("of 9", x.thief(0, 9), 0);
        check.due("of 7: number 1", x.thief(0, 7), 2);
        check.due("of 6: numbers 1 and 5", x.thief(0, 6), 34);
        x.bore(0, 0);
        check.due("of 8: number 0", x.thief(0, 8), 1);
        x.begin(99);
        check.due("all six", x.thief(0, 9), 63);
        BarrelTaps last = yard("y991;f911;f911;f911;f911;f911;f011", 5);
        check.due("the last one", last.thief(0, 4), 32);
    }

    private static void thiefBehindTheLeak() {
        check.says("drawn behind the LEAK of a DAY, so that all MARKS are so");
        BarrelTaps x = yard("y991;f011;f111", 9);
        x.leak(0, 4);
        // 9 less 2 less 4 are 3: the first TAP gave 3 then, the other 2.
        check.due("of 3", x.thief(0, 3), 1);
        check.due("of 2", x.thief(0, 2), 3);
        check.due("of 4", x.thief(0, 4), 0);
        x.mark(1, 1);
        check.due("a MARK behind it", x.thief(0, 2), 3);
        x.mark(2, 0);
        check.due("what it left is drawn the next DAY", x.thief(0, 2), 3);
        x.mark(2, 1);
        check.due("MARKS that are never both so", x.thief(0, 2), 0);
        check.due("LEVEL is as it was", x.level(1), 3);
    }

    private static void thiefOfFirstAndLastDay() {
        check.says("THIEF of v pails on a DAY (0 .. 9)");
        BarrelTaps x = yard("y991;f011", 20);
        x.mark(10, 7);
        check.due("the last DAY", x.thief(9, 3), 1);
        check.due("the first DAY", x.thief(0, 3), 1);
        x.mark(9, 11);
        check.due("not the last DAY alone", x.thief(9, 3), 1);
        check.due("nor the first", x.thief(0, 3), 0);
        x.back(1);
        x.mark(9, 8);
        check.due("the last DAY, a MARK ahead of it", x.thief(9, 3), 0);
        check.due("the DAY ahead of it", x.thief(8, 3), 1);
        check.due("DAY -1", x.thief(-1, 3), -1);
        check.due("DAY 10", x.thief(10, 3), -1);
    }
}
