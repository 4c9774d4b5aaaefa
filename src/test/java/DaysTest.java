/** Promises 9 to 13. */
public final class DaysTest {
    private static final Check check = new Check("DaysTest");

    public static void main(String[] args) {
        fromAbove();
        fromBelow();
        byTurns();
        likeHeights();
        manyHeights();
        runningOver();
        leaking();
        nobodys();
        dryDays();
        sixTapsOnTheLastDay();
        refusals();
        check.end();
    }

    private static void gots(BarrelTaps x, int day, int... due) {
        for (int f = 0; f < due.length; f++) {
            check.due("got(" + f + ", " + day + ")", x.got(f, day), due[f]);
        }
    }

    private static void levels(BarrelTaps x, int... due) {
        for (int day = 0; day < due.length; day++) {
            check.due("level(" + day + ")", x.level(day), due[day]);
        }
    }

    private static void fromAbove() {
        BarrelTaps x = Check.yard("y202;f044;f443");
        x.begin(10);
        gots(x, 0, 4, 2);
        levels(x, 10, 4, 0, 0);
        gots(x, 1, 4, 0);
        gots(x, 2, 0, 0);
    }

    private static void fromBelow() {
        BarrelTaps x = Check.yard("y202;f443;f044");
        x.begin(10);
        x.law(1);
        gots(x, 0, 0, 4);
        levels(x, 10, 6, 2, 0, 0);
        gots(x, 2, 0, 2);
    }

    private static void byTurns() {
        // 10 pails go as 3 and 1, 3 and 1, 1 and 1.
        BarrelTaps x = Check.yard("y201;f073;f051");
        x.begin(10);
        x.law(2);
        gots(x, 0, 7, 3);
        levels(x, 10, 0);
        // The second goes on when the first has what it wants.
        BarrelTaps y = Check.yard("y201;f023;o051");
        y.begin(20);
        y.law(2);
        gots(y, 0, 2, 8);
        levels(y, 20, 10, 0);
        // A tap above the water is passed over, the round goes on.
        BarrelTaps z = Check.yard("y202;f592;f042");
        z.begin(11);
        z.law(2);
        gots(z, 0, 1, 4);
        levels(z, 11, 6, 2, 0);
    }

    private static void likeHeights() {
        for (int law = 0; law <= 1; law++) {
            BarrelTaps x = Check.yard("y201;f251;f251;f251");
            x.begin(10);
            x.law(law);
            gots(x, 0, 5, 3, 0);
        }
    }

    private static void manyHeights() {
        // Two inches lie between any two taps, and each needs three pails: another order would show.
        BarrelTaps x = Check.yard("y201;f331;f931;f131;f731;f531");
        x.begin(12);
        gots(x, 0, 2, 3, 2, 2, 2);
        levels(x, 12, 1);
        x.law(1);
        gots(x, 0, 3, 0, 3, 0, 1);
        levels(x, 12, 5);
    }

    private static void runningOver() {
        BarrelTaps x = Check.yard("y102;f011");
        x.begin(4);
        Check.rainRow(x, 6, 7, 1, 2, 99);
        check.due("just full", x.over(0), 0);
        check.due("over", x.over(1), 6);
        check.due("just full again", x.over(2), 0);
        check.due("over by one", x.over(3), 1);
        check.due("over", x.over(4), 98);
        check.due("none", x.over(9), 0);
        levels(x, 4, 9, 9, 9, 9, 9, 8);
    }

    private static void leaking() {
        BarrelTaps x = Check.yard("y202;f912");
        x.begin(20);
        x.leak(3, 4);
        check.due("the leak is behind the drawing", x.got(0, 0), 1);
        levels(x, 20, 15, 11, 7, 6, 6, 6);
        x.leak(0, 9);
        levels(x, 20, 10, 1, 0, 0);
        x.begin(10);
        x.leak(6, 5);
        check.due("the water is beneath the leak", x.level(10), 10);
    }

    private static void nobodys() {
        BarrelTaps x = Check.yard("y303;f721;g411;f911");
        x.begin(30);
        check.due("nobody(0)", x.nobody(0), 12);
        x.begin(13);
        check.due("above the lowest", x.nobody(0), 12);
        x.begin(12);
        check.due("at the lowest", x.nobody(0), 12);
        x.begin(11);
        check.due("beneath the lowest", x.nobody(0), 11);
        x.leak(0, 2);
        check.due("later", x.nobody(3), 5);
        check.due("at the end", x.nobody(10), 0);
        x.bore(0, 0);
        check.due("a tap at the ground", x.nobody(0), 0);
    }

    private static void dryDays() {
        BarrelTaps x = Check.yard("y201;f051;g541");
        x.begin(20);
        // day 0: g 6, f 5; 9 left. day 1: g 4 (its need), f 5. day 2: nothing.
        check.due("dry(0)", x.dry(0), 2);
        check.due("dry(1), who has its need on day 1", x.dry(1), 2);
        check.due("it got less than it wants", x.got(1, 1), 4);
        Check.rainRow(x, 20, 20, 20, 20, 20, 20, 20, 20, 20, 20);
        check.due("never", x.dry(0), -9);
        x.rain(9, 0);
        check.due("its need on the last day", x.dry(1), -9);
        x.rain(8, 0);
        check.due("on the last day", x.dry(1), 9);
    }

    private static void sixTapsOnTheLastDay() {
        for (int law = 0; law <= 2; law++) {
            BarrelTaps x = Check.yard("y991;f011;f021;f031;f041;f051;f061");
            x.law(law);
            x.rain(9, 30);
            gots(x, 8, 0, 0, 0, 0, 0, 0);
            gots(x, 9, 1, 2, 3, 4, 5, 6);
            check.due("level(9)", x.level(9), 0);
            check.due("level(10)", x.level(10), 9);
            check.due("over(9)", x.over(9), 0);
            check.due("nobody(10)", x.nobody(10), 0);
            check.due("dry(5)", x.dry(5), 0);
        }
    }

    private static void refusals() {
        BarrelTaps none = new BarrelTaps();
        check.due("got without a YARD", none.got(0, 0), -1);
        check.due("level: UNKNOWN ahead of STATE", none.level(11), -1);
        check.due("level: STATE", none.level(10), -3);
        check.due("over: UNKNOWN ahead of STATE", none.over(10), -1);
        check.due("over: STATE", none.over(9), -3);
        check.due("nobody: UNKNOWN ahead of STATE", none.nobody(-1), -1);
        check.due("nobody: STATE", none.nobody(10), -3);
        check.due("dry without a YARD", none.dry(0), -1);
        BarrelTaps x = Check.yard("y201;f051;g541");
        check.due("got: TAP", x.got(2, 0), -1);
        check.due("got: TAP", x.got(-1, 0), -1);
        check.due("got: DAY", x.got(0, 10), -1);
        check.due("got: DAY", x.got(0, -1), -1);
        check.due("level: day", x.level(11), -1);
        check.due("level: day", x.level(-1), -1);
        check.due("over: day", x.over(10), -1);
        check.due("over: day", x.over(-1), -1);
        check.due("nobody: day", x.nobody(11), -1);
        check.due("dry: TAP", x.dry(2), -1);
        check.due("dry: TAP", x.dry(-1), -1);
    }
}
