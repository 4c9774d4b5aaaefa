/** The edges of promises 9 to 13: the first and the last DAY, the barrel's brim, taps that just give or do not. */
public final class DaysEdgeTest {
    private static final Check check = new Check("DaysEdgeTest");

    public static void main(String[] args) {
        firstAndLastDay();
        justFull();
        smallestAndLargestBarrel();
        orderWithinADay();
        whatATapGives();
        likeHeightsFromAbove();
        likeHeightsFromBelow();
        allItWants();
        turnsBySpeed();
        turnsTillNobodyDraws();
        turnsByNumbers();
        leakAsFarAsAbove();
        leakOfNoneAndOfNine();
        nobodysPails();
        nobodysAheadOfLastDay();
        justItsNeed();
        firstDryDay();
        check.end();
    }

    private static BarrelTaps yard(String text, int water, int law) {
        BarrelTaps x = Check.yard(text);
        x.begin(water);
        x.law(law);
        return x;
    }

    private static void gots(String what, BarrelTaps x, int day, int... due) {
        for (int f = 0; f < due.length; f++) {
            check.due(what + ": got(" + f + ", " + day + ")", x.got(f, day), due[f]);
        }
    }

    private static void levels(String what, BarrelTaps x, int... due) {
        for (int day = 0; day < due.length; day++) {
            check.due(what + ": level(" + day + ")", x.level(day), due[day]);
        }
    }

    private static void firstAndLastDay() {
        check.says("DAYS 0 .. 9; GOT: what a TAP's FAMILY draws on a DAY; LEVEL: the WATER ahead of a DAY (0 .. 10)");
        for (int law = 0; law <= 2; law++) {
            BarrelTaps x = yard("y201;f011", 10, law);
            for (int day = 0; day < 10; day++) {
                check.due("a pail a DAY", x.got(0, day), 1);
            }
            levels("a pail a DAY", x, 10, 9, 8, 7, 6, 5, 4, 3, 2, 1, 0);
            x.begin(9);
            gots("none is left for the last DAY", x, 9, 0);
            gots("the last pail", x, 8, 1);
            x.rain(9, 1);
            gots("a RAIN of the last DAY", x, 9, 1);
            check.due("all of it is drawn", x.level(10), 0);
            x.rain(9, 3);
            check.due("ahead of the last DAY", x.level(9), 0);
            check.due("ahead of DAY 10", x.level(10), 2);
            check.due("no DAY 10", x.got(0, 10), -1);
            check.due("nothing is over on a DAY 10", x.over(10), -1);
            check.due("nothing ahead of a DAY 11", x.level(11), -1);
        }
    }

    private static void justFull() {
        check.says("RAIN falls; what is more than CAP runs OVER");
        // The tap is above the brim, so that what falls stays.
        BarrelTaps x = yard("y203;f991", 15, 0);
        int[][] rainOverLevel = {{0, 0, 15}, {4, 0, 19}, {5, 0, 20}, {6, 1, 20}, {7, 2, 20}, {99, 94, 20}};
        for (int[] due : rainOverLevel) {
            for (int day : new int[] {0, 5, 9}) {
                x.rain(day, due[0]);
                check.due("OVER by " + due[0] + " on DAY " + day, x.over(day), due[1]);
                check.due("LEVEL behind " + due[0] + " on DAY " + day, x.level(day + 1), due[2]);
                check.due("OVER on another DAY", x.over(3), 0);
                x.rain(day, 0);
            }
        }
        Check.rainRow(x, 5, 1, 99, 0, 1);
        int[] overs = {0, 1, 99, 0, 1, 0, 0, 0, 0, 0};
        for (int day = 0; day < 10; day++) {
            check.due("a full barrel's OVER", x.over(day), overs[day]);
        }
    }

    private static void smallestAndLargestBarrel() {
        check.says("CAP 01 .. 99, RAIN 0 .. 99");
        BarrelTaps x = yard("y019;f111", 1, 0);
        x.rain(9, 99);
        check.due("all of it, of CAP 1", x.over(9), 99);
        check.due("CAP 1", x.level(10), 1);
        x.begin(0);
        check.due("all but 1", x.over(9), 98);
        BarrelTaps y = yard("y999;f991", 0, 0);
        y.rain(0, 99);
        check.due("none of it, of CAP 99", y.over(0), 0);
        gots("the highest TAP, of the fullest barrel", y, 0, 9);
        check.due("LEVEL", y.level(1), 90);
        y.begin(99);
        y.bore(0, 0);
        check.due("all of it, of CAP 99", y.over(0), 99);
        check.due("LEVEL", y.level(1), 90);
    }

    private static void orderWithinADay() {
        check.says("On a DAY, in order: RAIN falls; what is more than CAP runs OVER. Then all draw. Then a LEAK");
        BarrelTaps x = yard("y101;f041", 8, 0);
        x.rain(0, 5);
        x.leak(0, 2);
        check.due("it runs over ahead of the drawing", x.over(0), 3);
        gots("drawn ahead of the LEAK", x, 0, 4);
        check.due("10 less 4 less 2", x.level(1), 4);
        gots("all that is left, ahead of the LEAK", x, 1, 4);
        check.due("nothing left to leak", x.level(2), 0);
        x.begin(0);
        x.rain(0, 3);
        gots("RAIN of the same DAY is drawn", x, 0, 3);
    }

    private static void whatATapGives() {
        check.says("A TAP gives as many pails as the WATER is above HEIGHT times PER");
        for (int law = 0; law <= 2; law++) {
            BarrelTaps x = yard("y903;f499", 0, law);
            int[][] waterGot = {{0, 0}, {11, 0}, {12, 0}, {13, 1}, {20, 8}, {21, 9}, {22, 9}, {90, 9}};
            for (int[] due : waterGot) {
                x.begin(due[0]);
                gots("WATER " + due[0], x, 0, due[1]);
                check.due("LEVEL", x.level(1), due[0] - due[1]);
            }
            x.bore(0, 0);
            x.begin(1);
            gots("at the ground, a pail", x, 0, 1);
            x.begin(0);
            gots("at the ground, none", x, 0, 0);
            BarrelTaps high = yard("y819;f911", 81, law);
            gots("the brim is as high as the TAP", high, 0, 0);
            high.rain(0, 99);
            gots("and stays so", high, 0, 0);
            BarrelTaps low = yard("y829;f911", 82, law);
            gots("a pail above the TAP", low, 0, 1);
            gots("but not the next DAY", low, 1, 0);
        }
    }

    private static void likeHeightsFromAbove() {
        check.says("0: the highest TAP first (of like ones the least number)");
        BarrelTaps x = yard("y201;f131;f231;f131;f231", 20, 0);
        int[][] due = {{0, 0, 0, 0, 0}, {1, 0, 0, 0, 0}, {2, 1, 0, 0, 0}, {3, 1, 1, 0, 0}, {5, 1, 3, 0, 0},
            {6, 1, 3, 0, 1}, {8, 1, 3, 0, 3}, {9, 2, 3, 0, 3}, {10, 3, 3, 0, 3}, {11, 3, 3, 1, 3}, {13, 3, 3, 3, 3}};
        for (int[] d : due) {
            x.begin(d[0]);
            gots("WATER " + d[0], x, 0, d[1], d[2], d[3], d[4]);
        }
    }

    private static void likeHeightsFromBelow() {
        check.says("1: the lowest first (of like ones the least number), likewise");
        BarrelTaps x = yard("y201;f231;f131;f231;f131", 20, 1);
        int[][] due = {{1, 0, 0, 0, 0}, {2, 0, 1, 0, 0}, {4, 0, 3, 0, 0}, {5, 0, 3, 0, 1}, {7, 0, 3, 0, 3},
            {8, 0, 3, 0, 3}, {9, 1, 3, 0, 3}, {11, 3, 3, 0, 3}, {12, 3, 3, 1, 3}, {14, 3, 3, 3, 3}};
        for (int[] d : due) {
            x.begin(d[0]);
            gots("WATER " + d[0], x, 0, d[1], d[2], d[3], d[4]);
        }
    }

    private static void allItWants() {
        check.says("each all it WANTS, as far as its TAP gives");
        for (int law = 0; law <= 2; law++) {
            int[][] due = {{13, 13}, {14, 14}, {15, 14}, {99, 14}};
            BarrelTaps x = yard("y991;o091", 0, law);
            for (int[] d : due) {
                x.begin(d[0]);
                gots("OLDEST, WATER " + d[0], x, 0, d[1]);
            }
            x = yard("y991;g099", 14, law);
            gots("GREEDY", x, 0, 13);
            gots("what is left", x, 1, 1);
            x = yard("y991;g011", 14, law);
            gots("a half of 1, cut", x, 0, 1);
        }
    }

    private static void turnsBySpeed() {
        check.says("2: each SPEED pails (as far as it WANTS more, and its TAP gives)");
        BarrelTaps x = yard("y991;f099;f099", 12, 2);
        gots("SPEED as large as its WANTS", x, 0, 9, 3);
        x = yard("y991;f019;f019", 2, 2);
        gots("SPEED larger than its WANTS", x, 0, 1, 1);
        check.due("no more than that", x.level(1), 0);
        x = yard("y991;f054;f054", 9, 2);
        gots("4 and 4, then the 1 that is left", x, 0, 5, 4);
        x = yard("y991;f054;f054", 10, 2);
        gots("4 and 4, then 1 and 1", x, 0, 5, 5);
        x = yard("y991;f073;f251", 7, 2);
        gots("3 and 1, then 3, and none above its TAP", x, 0, 6, 1);
        x = yard("y991;o091;f091", 99, 2);
        gots("pail by pail", x, 0, 14, 9);
        check.due("all they want", x.level(1), 76);
    }

    private static void turnsTillNobodyDraws() {
        check.says("round after round, till nobody draws any");
        BarrelTaps x = yard("y991;f919;f919;f919;f919;f919;o091", 14, 2);
        gots("the last one goes on alone", x, 0, 1, 1, 1, 1, 1, 9);
        check.due("till there is none", x.level(1), 0);
        x = yard("y991;o091;f919;f919;f919;f919;f919", 23, 2);
        gots("the first one goes on alone", x, 0, 14, 1, 1, 1, 1, 1);
        check.due("till it has what it wants", x.level(1), 4);
        x = yard("y991;f999;f999", 9, 2);
        gots("nobody draws any", x, 0, 0, 0);
        check.due("LEVEL stays", x.level(10), 9);
    }

    private static void turnsByNumbers() {
        check.says("2: by turns: round after round by numbers");
        BarrelTaps x = yard("y991;f031;f931;f531", 10, 2);
        gots("the first first, whatever its HEIGHT", x, 0, 3, 0, 2);
        x = yard("y991;f931;f531;f031", 10, 2);
        gots("the highest first, if it is the first", x, 0, 1, 2, 3);
        x = yard("y991;f921;f921;f921", 12, 2);
        gots("like HEIGHTS", x, 0, 1, 1, 1);
        x.begin(13);
        gots("one pail more", x, 0, 2, 1, 1);
    }

    private static void leakAsFarAsAbove() {
        check.says("a LEAK lets so many pails out, as far as the WATER is above it");
        BarrelTaps x = yard("y993;f911", 0, 0);
        x.leak(4, 5);
        int[][] waterLevel = {{0, 0}, {11, 11}, {12, 12}, {13, 12}, {16, 12}, {17, 12}, {18, 13}, {27, 22}};
        for (int[] due : waterLevel) {
            x.begin(due[0]);
            check.due("WATER " + due[0], x.level(1), due[1]);
        }
        x.leak(9, 9);
        int[][] high = {{27, 27}, {28, 27}, {29, 27}, {37, 27}, {38, 28}};
        for (int[] due : high) {
            x.begin(due[0]);
            check.due("WATER " + due[0] + ", the highest LEAK", x.level(1), due[1]);
        }
    }

    private static void leakOfNoneAndOfNine() {
        check.says("0 .. 9 inches, 0 .. 9 pails; 0 at first");
        BarrelTaps x = yard("y999;f991", 80, 0);
        check.due("none at first", x.level(10), 80);
        x.leak(0, 0);
        check.due("none at the ground", x.level(10), 80);
        x.leak(0, 1);
        check.due("one at the ground", x.level(10), 70);
        x.leak(0, 9);
        levels("nine at the ground", x, 80, 71, 62, 53, 44, 35, 26, 17, 8, 0, 0);
        x.leak(9, 9);
        check.due("above the WATER", x.level(10), 80);
    }

    private static void nobodysPails() {
        check.says("NOBODY's: pails no TAP can give");
        BarrelTaps x = yard("y994;f711;f311;f911", 0, 0);
        int[][] waterNobodys = {{0, 0}, {1, 1}, {11, 11}, {12, 12}, {13, 12}, {28, 12}, {99, 12}};
        for (int[] due : waterNobodys) {
            x.begin(due[0]);
            check.due("WATER " + due[0], x.nobody(0), due[1]);
        }
        x.bore(1, 9);
        check.due("the lowest is another one", x.nobody(0), 28);
        x.bore(0, 9);
        check.due("all at the top", x.nobody(0), 36);
        x.bore(2, 0);
        check.due("one at the ground", x.nobody(0), 0);
        BarrelTaps high = yard("y809;f911", 80, 0);
        check.due("all is beneath the only TAP", high.nobody(0), 80);
    }

    private static void nobodysAheadOfLastDay() {
        check.says("NOBODY's ahead of a DAY (0 .. 10)");
        BarrelTaps x = yard("y201;f511", 16, 0);
        x.leak(0, 1);
        int[] due = {5, 5, 5, 5, 5, 5, 4, 3, 2, 1, 0};
        for (int day = 0; day <= 10; day++) {
            check.due("ahead of DAY " + day, x.nobody(day), due[day]);
        }
        x.rain(9, 20);
        check.due("RAIN of the last DAY", x.nobody(10), 5);
        check.due("not ahead of it", x.nobody(9), 1);
    }

    private static void justItsNeed() {
        check.says("A FAMILY is DRY on a DAY, if it GOT less than its NEED");
        String[] kinds = {"f", "g", "o"};
        for (String kind : kinds) {
            BarrelTaps x = yard("y991;" + kind + "051", 4, 0);
            check.due("one less: " + kind, x.dry(0), 0);
            Check.rainRow(x, 1, 99, 99, 99, 99, 99, 99, 99, 99, 99);
            check.due("just its NEED: " + kind, x.got(0, 0), 5);
            check.due("is not DRY: " + kind, x.dry(0), -9);
        }
        BarrelTaps x = yard("y991;f111", 1, 0);
        check.due("a TAP that gives nothing", x.dry(0), 0);
    }

    private static void firstDryDay() {
        check.says("The first DAY on which a FAMILY is DRY; NONE");
        for (int water = 0; water <= 10; water++) {
            BarrelTaps x = yard("y201;f011", water, 0);
            check.due("a pail a DAY, WATER " + water, x.dry(0), water == 10 ? -9 : water);
        }
        BarrelTaps x = yard("y201;f011;f011", 20, 0);
        x.rain(9, 9);
        check.due("never DRY", x.dry(1), -9);
        x.begin(5);
        check.due("of several the first: that one draws first", x.dry(0), 3);
        check.due("of several the first", x.dry(1), 2);
        check.due("on the last it is not", x.got(1, 9), 1);
        check.due("the last TAP", x.dry(2), -1);
    }
}
