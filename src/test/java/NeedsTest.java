/** Promises 14 to 18. */
public final class NeedsTest {
    private static final Check check = new Check("NeedsTest");

    public static void main(String[] args) {
        canAndStart();
        leaksAndOvers();
        bestLaws();
        highestTaps();
        worstShares();
        tapsOfAnOlderText();
        refusals();
        check.end();
    }

    private static void canAndStart() {
        BarrelTaps x = Check.yard("y201;f541;g051");
        x.begin(9);
        check.due("can(0)", x.can(0), 1);
        check.due("can(1)", x.can(1), 1);
        check.due("can(2)", x.can(2), 0);
        x.begin(8);
        check.due("can(1) with one pail less", x.can(1), 0);
        check.due("can(0) always", x.can(0), 1);
        check.due("start(0)", x.start(0), 0);
        check.due("start(1)", x.start(1), 9);
        check.due("start(2)", x.start(2), 18);
        check.due("start(3)", x.start(3), -9);
        x.begin(18);
        check.due("nobody more than its need", x.can(2), 1);
        check.due("though by the law one is dry", x.dry(0), 1);
        x.law(1);
        check.due("the law is not asked", x.can(2), 1);
        check.due("nor for the start", x.start(2), 18);
        x.rain(0, 9);
        check.due("rain counts", x.start(1), 0);
        check.due("rain counts", x.start(3), -9);
        check.due("start changes nothing", x.level(0), 18);
        check.due("all of the barrel", Check.yard("y011;f011").start(1), 1);
    }

    private static void leaksAndOvers() {
        BarrelTaps x = Check.yard("y201;f541;g051");
        x.leak(0, 2);
        check.due("the leak counts", x.start(2), 20);
        x.leak(0, 3);
        check.due("the leak counts", x.start(2), -9);
        x.leak(0, 0);
        x.rain(0, 99);
        check.due("what runs over is lost", x.start(2), 0);
        check.due("what runs over is lost", x.start(3), -9);
        x.rain(2, 7);
        check.due("as long as it lasts", x.start(3), 0);
        x.begin(0);
        check.due("and can", x.can(3), 1);
    }

    private static void bestLaws() {
        BarrelTaps x = Check.yard("y201;o542;o092");
        x.begin(14);
        check.due("by turns", x.best(1, 0), 2);
        check.due("by turns both", x.best(1, 1), 2);
        check.due("the law stays", x.many(3), 0);
        x.begin(5);
        check.due("of like ones the least", x.best(1, 0), 0);
        check.due("none", x.best(1, 1), 0);
        x.law(2);
        check.due("the law is not asked", x.best(1, 0), 0);
        check.due("no day, nobody dry", x.best(0, 1), 2);
        check.due("no day, the least", x.best(0, 0), 0);
        // From above the high one takes what the two low ones need.
        BarrelTaps y = Check.yard("y201;o581;f031;f031");
        y.begin(12);
        check.due("from below", y.best(1, 0), 1);
        check.due("from below two", y.best(1, 1), 2);
    }

    private static void highestTaps() {
        BarrelTaps x = Check.yard("y202;f031");
        x.begin(10);
        check.due("highest(0, 0)", x.highest(0, 0), 9);
        check.due("highest(0, 1)", x.highest(0, 1), 3);
        check.due("highest(0, 2)", x.highest(0, 2), 2);
        check.due("highest(0, 3)", x.highest(0, 3), 0);
        check.due("highest(0, 4)", x.highest(0, 4), -9);
        check.due("HEIGHT stays", x.ofTap(0, 1), 0);
        BarrelTaps y = Check.yard("y201;f041;f251");
        y.begin(8);
        check.due("dry where it is", y.dry(0), 0);
        check.due("higher it draws first", y.highest(0, 1), 4);
        check.due("the other as it is", y.highest(1, 1), 3);
        y.law(1);
        check.due("by the law", y.highest(1, 1), -9);
        check.due("at a like height the least number first", y.highest(0, 1), 2);
    }

    private static void worst(BarrelTaps x, int n, int upper, int lower) {
        check.due("worst(" + n + ", 0)", x.worst(n, 0), upper);
        check.due("worst(" + n + ", 1)", x.worst(n, 1), lower);
    }

    private static void worstShares() {
        BarrelTaps x = Check.yard("y201;f061;f241");
        x.begin(10);
        worst(x, 1, 1, 1);
        worst(x, 2, 1, 2);
        worst(x, 3, 1, 3);
        worst(x, 10, 1, 10);
        x.begin(9);
        worst(x, 1, 5, 6);
        x.law(1);
        worst(x, 1, 1, 4);
        x.begin(0);
        worst(x, 10, 0, 1);
        BarrelTaps z = Check.yard("y301;f931;f271;f031");
        z.begin(12);
        worst(z, 1, 2, 3);  // 3 of 3, 7 of 7, 2 of 3
        z.begin(10);
        worst(z, 1, 1, 3);  // 1 of 3, 7 of 7, 2 of 3
        z.rain(1, 9);
        worst(z, 2, 1, 6);  // 1 of 6, 14 of 14, 4 of 6
        z.begin(12);
        z.bore(1, 5);
        worst(z, 1, 4, 7);  // 3 of 3, 4 of 7, 3 of 3
        z.bore(1, 6);
        worst(z, 2, 3, 7);  // 6 of 6, 6 of 14, 6 of 6
        BarrelTaps y = Check.yard("y201;g021");
        y.begin(20);
        worst(y, 1, 3, 2);
        worst(y, 7, 10, 7);
    }

    /** What an earlier, larger yard had must not be asked any more. */
    private static void tapsOfAnOlderText() {
        BarrelTaps x = Check.yard("y991;f091;f091;f091;f091;f091;f091");
        Check.read(x, "y201;f251");
        x.begin(7);
        check.due("can", x.can(1), 1);
        check.due("start", x.start(1), 7);
        check.due("best", x.best(1, 1), 1);
        check.due("nobody", x.nobody(0), 2);
        check.due("thief", x.thief(0, 1), 0);
        check.due("highest", x.highest(0, 1), 2);
        worst(x, 1, 1, 1);
        worst(x, 2, 1, 2);
        x.law(2);
        check.due("level", x.level(1), 2);
        Check.read(x, "y201;f251;f991");
        x.begin(7);
        worst(x, 1, 0, 1);
    }

    private static void refusals() {
        BarrelTaps none = new BarrelTaps();
        BarrelTaps x = Check.yard("y202;f031");
        for (int n : new int[] {-1, 11, Integer.MIN_VALUE, Integer.MAX_VALUE}) {
            check.due("can: OUTSIDE ahead of STATE", none.can(n), -2);
            check.due("start: OUTSIDE ahead of STATE", none.start(n), -2);
            check.due("best: OUTSIDE ahead of STATE", none.best(n, 0), -2);
            check.due("highest: UNKNOWN ahead of OUTSIDE", none.highest(0, n), -1);
            check.due("worst: LOST", none.worst(n, 0), Long.MIN_VALUE);
            check.due("can: OUTSIDE", x.can(n), -2);
            check.due("start: OUTSIDE", x.start(n), -2);
            check.due("best: OUTSIDE", x.best(n, 0), -2);
            check.due("highest: OUTSIDE", x.highest(0, n), -2);
            check.due("highest: UNKNOWN", x.highest(1, n), -1);
            check.due("worst: LOST", x.worst(n, 0), Long.MIN_VALUE);
        }
        check.due("can: STATE", none.can(10), -3);
        check.due("start: STATE", none.start(10), -3);
        check.due("best: OUTSIDE ahead of STATE", none.best(1, 2), -2);
        check.due("best: STATE", none.best(10, 1), -3);
        check.due("best: OUTSIDE", x.best(1, 2), -2);
        check.due("best: OUTSIDE", x.best(1, -1), -2);
        check.due("highest: UNKNOWN", x.highest(-1, 0), -1);
        check.due("worst: no day", x.worst(0, 0), Long.MIN_VALUE);
        check.due("worst: which", x.worst(1, 2), Long.MIN_VALUE);
        check.due("worst: which", x.worst(1, -1), Long.MIN_VALUE);
        check.due("worst: STATE", none.worst(1, 0), Long.MIN_VALUE);
    }
}
