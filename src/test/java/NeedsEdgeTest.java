/** The edges of promises 14 to 18: no DAY and ten, answers that are the least, the greatest, or NONE. */
public final class NeedsEdgeTest {
    private static final Check check = new Check("NeedsEdgeTest");

    public static void main(String[] args) {
        canOnNoDayAndOnTen();
        canFromAboveJustNeeds();
        canOfSixAndOfOne();
        startThatIsNone();
        startThatIsLeastAndGreatest();
        startIsLeast();
        bestOnNoDay();
        bestOfSeveral();
        bestIsEachLaw();
        bestOnTenDays();
        highestThatIsNineOrNone();
        highestThatIsEachHeight();
        highestWithOthersAsTheyAre();
        worstOnOneDayAndOnTen();
        worstThatIsNothing();
        worstAboveOne();
        worstInLeastTerms();
        worstOfAll();
        check.end();
    }

    private static BarrelTaps yard(String text, int water, int... rain) {
        BarrelTaps x = Check.yard(text);
        x.begin(water);
        Check.rainRow(x, rain);
        return x;
    }

    private static void best(String what, BarrelTaps x, int n, int law, int never) {
        check.due(what + ": best(" + n + ", 0)", x.best(n, 0), law);
        check.due(what + ": best(" + n + ", 1)", x.best(n, 1), never);
    }

    private static void worst(String what, BarrelTaps x, int n, long upper, long lower) {
        check.due(what + ": worst(" + n + ", 0)", x.worst(n, 0), upper);
        check.due(what + ": worst(" + n + ", 1)", x.worst(n, 1), lower);
    }

    private static void canOnNoDayAndOnTen() {
        check.says("CAN (1, 0) on n DAYS (0 .. 10)");
        BarrelTaps x = yard("y991;f091;f991", 0);
        check.due("no DAY, no WATER", x.can(0), 1);
        check.due("one DAY, no WATER", x.can(1), 0);
        check.due("-1 DAYS", x.can(-1), -2);
        check.due("11 DAYS", x.can(11), -2);
        BarrelTaps y = yard("y201;f011;g011", 20);
        for (int n = 0; n <= 10; n++) {
            check.due("2 pails a DAY, on " + n, y.can(n), 1);
        }
        y.begin(19);
        check.due("a pail too few on DAY 9", y.can(10), 0);
        check.due("enough on 9 DAYS", y.can(9), 1);
        y.rain(9, 1);
        check.due("a RAIN of DAY 9", y.can(10), 1);
        y.rain(9, 0);
        y.rain(8, 1);
        check.due("a RAIN of DAY 8", y.can(10), 1);
        y.rain(8, 0);
        y.rain(0, 1);
        check.due("a RAIN of DAY 0", y.can(10), 1);
        y.begin(20);
        y.rain(0, 1);
        check.due("what runs over helps nobody", y.can(10), 1);
        check.due("it did run over", y.over(0), 1);
    }

    private static void canFromAboveJustNeeds() {
        check.says("whether each FAMILY can draw just its NEED (from above, nobody more)");
        BarrelTaps x = yard("y991;f031;o531", 8);
        check.due("from above 3 above the TAP, then 3", x.can(1), 1);
        for (int law = 0; law <= 2; law++) {
            x.law(law);
            check.due("by whatever LAW", x.can(1), 1);
        }
        x.law(1);
        check.due("from below it would be DRY", x.dry(1), 0);
        x.begin(7);
        check.due("2 above the TAP", x.can(1), 0);
        BarrelTaps two = yard("y991;o041;o041", 16);
        check.due("just 4 and 4, twice", two.can(2), 1);
        check.due("but no third time", two.can(3), 0);
        check.due("by their WANTS one is DRY", two.dry(1), 1);
        BarrelTaps leaky = yard("y991;f041", 9);
        leaky.leak(0, 1);
        check.due("4, 1, 4", leaky.can(2), 1);
        leaky.leak(0, 2);
        check.due("4, 2, 3", leaky.can(2), 0);
        leaky.leak(5, 2);
        check.due("the LEAK is above what is left", leaky.can(2), 1);
    }

    private static void canOfSixAndOfOne() {
        check.says("CAN: whether each FAMILY can draw just its NEED");
        BarrelTaps x = yard("y991;f091;f091;f091;f091;f091;f091", 54);
        check.due("six", x.can(1), 1);
        check.due("START of six", x.start(1), 54);
        x.begin(53);
        check.due("the last one can not", x.can(1), 0);
        x.bore(0, 1);
        x.begin(54);
        check.due("the first one can, from above", x.can(1), 1);
        x.bore(3, 9);
        x.bore(0, 9);
        check.due("both high ones can, ahead of the others", x.can(1), 1);
        x.bore(0, 0);
        x.bore(3, 0);
        Check.read(x, "y101;f041");
        x.begin(4);
        check.due("one, behind an older TEXT of six", x.can(1), 1);
        check.due("START of one", x.start(2), 8);
    }

    private static void startThatIsNone() {
        check.says("START: the least WATER at first (0 .. CAP) by which it is so; NONE");
        BarrelTaps x = yard("y091;f091", 0);
        check.due("CAP is just enough", x.start(1), 9);
        check.due("CAP is not enough", x.start(2), -9);
        BarrelTaps small = yard("y081;f091", 0);
        check.due("a pail less than needed", small.start(1), -9);
        small.rain(0, 99);
        check.due("whatever falls", small.start(1), -9);
        BarrelTaps high = yard("y819;f911", 0);
        check.due("the TAP is at the brim", high.start(1), -9);
        BarrelTaps low = yard("y829;f911", 0);
        check.due("a pail above it", low.start(1), 82);
        check.due("no second one", low.start(2), -9);
        low.rain(1, 1);
        check.due("but by RAIN", low.start(2), 82);
        check.due("and no third", low.start(3), -9);
    }

    private static void startThatIsLeastAndGreatest() {
        check.says("START for n DAYS (0 .. CAP)");
        BarrelTaps x = yard("y991;f911;o991", 50);
        check.due("no DAY", x.start(0), 0);
        check.due("-1 DAYS", x.start(-1), -2);
        check.due("11 DAYS", x.start(11), -2);
        x.rain(0, 99);
        check.due("RAIN alone", x.start(1), 0);
        BarrelTaps one = yard("y011;f011", 0);
        check.due("CAP 1", one.start(1), 1);
        check.due("CAP 1, two DAYS", one.start(2), -9);
        one.rain(0, 1);
        check.due("CAP 1, by RAIN", one.start(1), 0);
        check.due("CAP 1, RAIN runs over", one.start(2), -9);
        BarrelTaps large = yard("y991;f091", 0);
        check.due("ten DAYS of 9", large.start(10), 90);
        large.rain(9, 9);
        check.due("ten DAYS, the last by RAIN", large.start(10), 81);
        large = yard("y991;f091;f911", 0);
        check.due("ten DAYS of 10 are 100", large.start(10), -9);
        check.due("nine DAYS of 10 are 90, and 9 stay beneath", large.start(9), 90);
        large.bore(0, 9);
        check.due("9 beneath both", large.start(9), 99);
        large.leak(9, 1);
        check.due("and a LEAK", large.start(9), -9);
    }

    private static void startIsLeast() {
        check.says("the least WATER at first by which it is so");
        int[] least = {0, 8, 20, 25, -9, -9, -9, -9, -9, -9, -9};
        for (int n = 0; n <= 10; n++) {
            BarrelTaps x = yard("y402;f331;g241;o051", 17, 4, 0, 7);
            check.due("start(" + n + ")", x.start(n), least[n]);
            check.due("WATER is as it was told", x.level(0), 17);
            for (int water = 0; water <= 40; water++) {
                x.begin(water);
                check.due("can(" + n + ") by " + water, x.can(n), least[n] >= 0 && water >= least[n] ? 1 : 0);
            }
        }
    }

    private static void bestOnNoDay() {
        check.says("BEST LAW on n DAYS");
        BarrelTaps x = yard("y991;f991;g991;o991;f991;f991;f991", 0);
        best("no DAY, six never DRY", x, 0, 0, 6);
        best("no WATER, all DRY", x, 1, 0, 0);
        best("ten DAYS", x, 10, 0, 0);
        x.law(2);
        best("whatever the LAW is", x, 1, 0, 0);
        check.due("the LAW is as it was", x.many(3), 2);
        check.due("-1 DAYS", x.best(-1, 0), -2);
        check.due("11 DAYS", x.best(11, 0), -2);
        check.due("what", x.best(0, 2), -2);
        check.due("what", x.best(0, -1), -2);
    }

    private static void bestOfSeveral() {
        check.says("of several the least");
        BarrelTaps all = yard("y991;f031;f031", 6);
        best("all three", all, 1, 0, 2);
        // From above the OLDEST one takes 14 of 17; from below and by turns it has 10, and the others theirs.
        best("1 and 2", yard("y991;f021;f021;o391", 17), 1, 1, 3);
        // From below nothing is left above the high one's TAP; by turns it takes both pails at once.
        best("0 and 2", yard("y991;f822;f041", 10), 1, 0, 2);
        BarrelTaps one = yard("y991;f021", 2);
        best("one FAMILY, all three", one, 1, 0, 1);
        best("one FAMILY, none", one, 2, 0, 0);
    }

    private static void bestIsEachLaw() {
        check.says("BEST LAW: that by which the most FAMILIES are never DRY");
        // 10 pails: from above the high one has 2 of 2; from below none are left above its TAP.
        best("0", yard("y991;f041;f821", 10), 1, 0, 2);
        best("1", yard("y201;o581;f031;f031", 12), 1, 1, 2);
        best("2", yard("y201;o542;o092", 14), 1, 2, 2);
        BarrelTaps sparing = yard("y991;o041;o041", 16);
        check.due("both could, by just their NEEDS", sparing.can(2), 1);
        best("but there is no such LAW", sparing, 2, 0, 0);
    }

    private static void bestOnTenDays() {
        check.says("never DRY on DAYS 0 .. n less 1");
        BarrelTaps x = yard("y991;f011;f911", 20);
        best("on 1 DAY", x, 1, 0, 2);
        best("on 5 DAYS", x, 5, 0, 2);
        best("on 6 DAYS", x, 6, 0, 2);
        best("on 7 DAYS", x, 7, 0, 1);
        best("on 10 DAYS", x, 10, 0, 1);
        x.begin(9);
        best("the low one on 9 DAYS", x, 9, 0, 1);
        best("the low one on 10 DAYS", x, 10, 0, 0);
        x.rain(9, 1);
        best("RAIN of the last DAY", x, 10, 0, 1);
    }

    private static void highestThatIsNineOrNone() {
        check.says("HIGHEST on n DAYS; NONE");
        BarrelTaps x = yard("y991;f011;g511", 0);
        check.due("no DAY, no WATER", x.highest(0, 0), 9);
        check.due("one DAY, no WATER", x.highest(0, 1), -9);
        check.due("-1 DAYS", x.highest(0, -1), -2);
        check.due("11 DAYS", x.highest(0, 11), -2);
        check.due("no TAP", x.highest(2, 0), -1);
        x.begin(99);
        check.due("a full barrel", x.highest(0, 10), 9);
        check.due("a full barrel", x.highest(1, 10), 9);
        check.due("HEIGHT is as it was", x.ofTap(1, 1), 5);
        check.due("HEIGHT is as it was", x.ofTap(0, 1), 0);
    }

    private static void highestThatIsEachHeight() {
        check.says("the greatest HEIGHT by which its FAMILY is never DRY on these DAYS");
        BarrelTaps x = yard("y993;f021", 0);
        for (int h = 0; h <= 9; h++) {
            x.begin(3 * h + 2);
            check.due("2 above " + h + " inches", x.highest(0, 1), h);
            x.begin(3 * h + 4);
            check.due("4 above " + h + " inches", x.highest(0, 1), h);
            check.due("on two DAYS", x.highest(0, 2), h);
            x.begin(3 * h + 1);
            check.due("1 above " + h + " inches", x.highest(0, 1), h == 0 ? -9 : h - 1);
            check.due("HEIGHT is as it was", x.ofTap(0, 1), 0);
        }
        x.begin(99);
        check.due("9 is the greatest", x.highest(0, 1), 9);
        BarrelTaps ten = yard("y991;f011", 10);
        check.due("ten DAYS", ten.highest(0, 10), 0);
        ten.begin(9);
        check.due("ten DAYS, a pail too few", ten.highest(0, 10), -9);
        check.due("nine DAYS", ten.highest(0, 9), 0);
    }

    private static void highestWithOthersAsTheyAre() {
        check.says("(others as they are)");
        // The other at 5 inches wants 5; who is above it, or beside it with a lesser number, draws first.
        BarrelTaps x = yard("y991;f041;f551", 10);
        check.due("the lesser number", x.highest(0, 1), 6);
        BarrelTaps y = yard("y991;f551;f041", 10);
        check.due("the greater number", y.highest(1, 1), 6);
        y.begin(9);
        check.due("beside the other it draws second", y.highest(1, 1), 1);
        x.begin(9);
        check.due("beside the other it draws first", x.highest(0, 1), 5);
        x.law(1);
        check.due("from below", x.highest(0, 1), 5);
        y.law(1);
        check.due("from below, beside the other it draws second", y.highest(1, 1), 4);
        check.due("its own HEIGHT is as it was", y.ofTap(1, 1), 0);
        check.due("the other's is, too", y.ofTap(0, 1), 5);
    }

    private static void worstOnOneDayAndOnTen() {
        check.says("WORST on n DAYS (1 .. 10; which 0 the upper, 1 the lower number)");
        BarrelTaps x = yard("y991;f011", 9);
        worst("one DAY", x, 1, 1, 1);
        worst("nine DAYS", x, 9, 1, 1);
        worst("ten DAYS", x, 10, 9, 10);
        check.due("no DAY", x.worst(0, 0), Long.MIN_VALUE);
        check.due("11 DAYS", x.worst(11, 0), Long.MIN_VALUE);
        check.due("which", x.worst(1, 2), Long.MIN_VALUE);
        x.rain(9, 1);
        worst("RAIN of the last DAY", x, 10, 1, 1);
        x.rain(9, 0);
        x.rain(0, 1);
        worst("RAIN of the first DAY", x, 10, 1, 1);
        worst("nine DAYS", x, 9, 1, 1);
    }

    private static void worstThatIsNothing() {
        check.says("Shares are told as upper and lower number (above 0) in least terms: 0");
        BarrelTaps x = yard("y991;f091;o991", 9);
        worst("nothing of 9", x, 1, 0, 1);
        worst("nothing of 90", x, 10, 0, 1);
        x.begin(0);
        worst("nothing at all", x, 7, 0, 1);
        x.begin(10);
        worst("1 of 9", x, 1, 1, 9);
        worst("1 of 90", x, 10, 1, 90);
    }

    private static void worstAboveOne() {
        check.says("WORST: of what one GOT, of what it NEEDS: above 1");
        BarrelTaps x = yard("y991;o011", 99);
        worst("2 of 1", x, 1, 2, 1);
        worst("20 of 10", x, 10, 2, 1);
        x = yard("y991;o091", 99);
        worst("14 of 9", x, 1, 14, 9);
        worst("98 of 63", x, 7, 14, 9);
        worst("99 of 72", x, 8, 11, 8);
        worst("99 of 90", x, 10, 11, 10);
        x = yard("y991;g021", 99);
        worst("3 of 2", x, 1, 3, 2);
        x = yard("y991;g021;o021", 99);
        worst("3 of 2 and 4 of 2", x, 1, 3, 2);
        x = yard("y991;o021;f091", 99);
        worst("4 of 2 and 9 of 9", x, 1, 1, 1);
    }

    private static void worstInLeastTerms() {
        check.says("in least terms");
        BarrelTaps x = yard("y991;f061", 0);
        int[][] due = {{1, 1, 6}, {2, 1, 3}, {3, 1, 2}, {4, 2, 3}, {5, 5, 6}, {6, 1, 1}, {7, 1, 1}};
        for (int[] d : due) {
            x.begin(d[0]);
            worst(d[0] + " of 6", x, 1, d[1], d[2]);
        }
        x.begin(45);
        worst("45 of 60", x, 10, 3, 4);
        x.begin(59);
        worst("59 of 60", x, 10, 59, 60);
        x.begin(48);
        worst("48 of 54", x, 9, 8, 9);
    }

    private static void worstOfAll() {
        check.says("the least share, of all FAMILIES");
        BarrelTaps x = yard("y991;f091;f091;f091;f091;f091;f091", 45);
        worst("the last has nothing", x, 1, 0, 1);
        x.begin(50);
        worst("the last has 5 of 9", x, 1, 5, 9);
        x.bore(0, 1);
        x.bore(5, 9);
        worst("the first draws second, the fifth last", x, 1, 5, 9);
        x.begin(99);
        worst("all have theirs", x, 1, 1, 1);
        worst("on two DAYS the fifth has 9 of 18", x, 2, 1, 2);
    }
}
