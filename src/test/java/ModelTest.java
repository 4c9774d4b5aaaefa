import java.util.Random;

/** All promises: long runs of calls, the same ones in every run of this test, held against the Model. */
public final class ModelTest {
    private static final int OBJECTS = 1500, CALLS = 512;
    private static final int[] ODD = {-1, -2, 10, 11, 61, 100, Integer.MIN_VALUE, Integer.MAX_VALUE};
    private static final Check check = new Check("ModelTest");

    private final Random chance;
    private final BarrelTaps x = new BarrelTaps();
    private final Model m = new Model();
    private int calls = 0;

    private ModelTest(long seed) {
        chance = new Random(seed);
    }

    public static void main(String[] args) {
        for (int k = 0; k < OBJECTS; k++) {
            ModelTest run = new ModelTest(k);
            if (k % 10 != 0) {
                run.writeText();
                run.someWeather();
            }
            while (run.calls < CALLS) {
                run.step();
            }
        }
        check.end();
    }

    private void same(String call, long got, long want) {
        calls++;
        check.due(call, got, want);
    }

    /** 0 .. most, and now and then a number that is odd there. */
    private int num(int most) {
        int dice = chance.nextInt(40);
        if (dice == 0) {
            return ODD[chance.nextInt(ODD.length)];
        }
        return dice == 1 ? most + 1 : chance.nextInt(most + 1);
    }

    private char digit(int least) {
        return (char) ('0' + least + chance.nextInt(10 - least));
    }

    private String text() {
        StringBuilder b = new StringBuilder("y");
        b.append(digit(chance.nextInt(4) == 0 ? 0 : 2)).append(digit(chance.nextInt(20) == 0 ? 0 : 1));
        b.append((char) ('1' + chance.nextInt(chance.nextInt(5) == 0 ? 9 : 4)));
        int taps = 1 + chance.nextInt(chance.nextInt(20) == 0 ? 8 : 6);
        for (int k = 0; k < taps; k++) {
            b.append(';').append("fgo".charAt(chance.nextInt(3)));
            b.append(digit(0)).append(digit(1)).append(digit(1));
        }
        int harm = chance.nextInt(8);
        if (harm == 0) {
            b.setCharAt(chance.nextInt(b.length()), "y0;fgo9/:xh".charAt(chance.nextInt(11)));
        } else if (harm == 1) {
            b.setLength(chance.nextInt(b.length()));
        }
        return b.toString();
    }

    private void writeText() {
        String text = text();
        int k = chance.nextInt(4);
        int lane = chance.nextInt(3);
        int at = chance.nextInt(5);
        sheet(k, lane, at + text.length() + chance.nextInt(5));
        for (int i = 0; i < text.length(); i++) {
            put(k, at + i, text.charAt(i));
        }
        yard(k, lane, at, text.length());
    }

    private void someWeather() {
        begin(chance.nextInt(100));
        law(chance.nextInt(3));
        int most = 1 + chance.nextInt(60);
        for (int day = 0; day < 10; day++) {
            rain(day, chance.nextInt(most));
        }
        leak(num(9), num(9));
    }

    /** Marks that are so, or nearly so, or hold if one has stolen: else hardly a rain or a thief would fit. */
    private void likelyMark() {
        int day = chance.nextInt(11);
        int level = m.level(day);
        if (level >= 0) {
            int less = chance.nextInt(3) == 0 ? chance.nextInt(10) : 0;
            mark(day, Math.max(0, level - less));
        }
    }

    private void sheet(int k, int lane, int n) {
        same("sheet(" + k + ", " + lane + ", " + n + ")", x.sheet(k, lane, n), m.sheet(k, lane, n));
        faults();
    }

    private void put(int k, int i, int v) {
        same("put(" + k + ", " + i + ", " + v + ")", x.put(k, i, v), m.put(k, i, v));
    }

    private void yard(int k, int lane, int i, int n) {
        same("yard(" + k + ", " + lane + ", " + i + ", " + n + ")", x.yard(k, lane, i, n), m.yard(k, lane, i, n));
        faults();
    }

    private void begin(int v) {
        same("begin(" + v + ")", x.begin(v), m.begin(v));
    }

    private void law(int v) {
        same("law(" + v + ")", x.law(v), m.law(v));
    }

    private void rain(int day, int v) {
        same("rain(" + day + ", " + v + ")", x.rain(day, v), m.rain(day, v));
    }

    private void leak(int height, int v) {
        same("leak(" + height + ", " + v + ")", x.leak(height, v), m.leak(height, v));
    }

    private void mark(int day, int v) {
        same("mark(" + day + ", " + v + ")", x.mark(day, v), m.mark(day, v));
    }

    private void faults() {
        same("fault()", x.fault(), m.fault());
    }

    private void step() {
        int dice = chance.nextInt(100);
        if (dice < 1) {
            writeText();
        } else if (dice < 3) {
            someWeather();
        } else if (dice < 9) {
            likelyMark();
        } else if (dice < 40) {
            ofYard();
        } else if (dice < 75) {
            ofNeedsAndMarks();
        } else {
            ofSheets();
        }
    }

    private void ofYard() {
        int f = num(5);
        int d = num(9);
        int v = num(99);
        switch (chance.nextInt(12)) {
            case 0: same("ofTap(" + f + ", " + d + ")", x.ofTap(f, d), m.ofTap(f, d)); break;
            case 1: same("bore(" + f + ", " + d + ")", x.bore(f, d), m.bore(f, d)); break;
            case 2: begin(v); break;
            case 3: rain(d, v); break;
            case 4: law(num(2)); break;
            case 5: leak(d, num(9)); break;
            case 6: same("got(" + f + ", " + d + ")", x.got(f, d), m.got(f, d)); break;
            case 7: same("level(" + d + ")", x.level(d), m.level(d)); break;
            case 8: same("over(" + d + ")", x.over(d), m.over(d)); break;
            case 9: same("nobody(" + d + ")", x.nobody(d), m.nobody(d)); break;
            case 10: same("dry(" + f + ")", x.dry(f), m.dry(f)); break;
            default: same("many(" + f + ")", x.many(f), m.many(f)); break;
        }
    }

    private void ofNeedsAndMarks() {
        int f = num(5);
        int n = num(chance.nextBoolean() ? 10 : 3);
        int d = num(9);
        int which = num(1);
        switch (chance.nextInt(10)) {
            case 0: same("can(" + n + ")", x.can(n), m.can(n)); break;
            case 1: same("start(" + n + ")", x.start(n), m.start(n)); break;
            case 2: same("best(" + n + ", " + which + ")", x.best(n, which), m.best(n, which)); break;
            case 3: same("highest(" + f + ", " + n + ")", x.highest(f, n), m.highest(f, n)); break;
            case 4: same("worst(" + n + ", " + which + ")", x.worst(n, which), m.worst(n, which)); break;
            case 5: risk(f, num(6), num(99), num(40), which); break;
            case 6: mark(n, num(99)); break;
            case 7: int k = num(8); same("back(" + k + ")", x.back(k), m.back(k)); break;
            case 8: int r = num(40) - 1; same("rains(" + d + ", " + r + ")", x.rains(d, r), m.rains(d, r)); break;
            default: int v = num(9); same("thief(" + d + ", " + v + ")", x.thief(d, v), m.thief(d, v)); break;
        }
    }

    private void risk(int f, int n, int a, int b, int which) {
        same("risk(" + f + ", " + n + ", " + a + ", " + b + ", " + which + ")",
            x.risk(f, n, a, b, which), m.risk(f, n, a, b, which));
    }

    private void ofSheets() {
        int k = num(3);
        int i = num(12);
        int j = num(12);
        int n = num(chance.nextInt(4) == 0 ? 60 : 12);
        int lane = num(2);
        int f = num(5);
        switch (chance.nextInt(10)) {
            case 0: sheet(k, lane, n); break;
            case 1: put(k, i, chance.nextBoolean() ? chance.nextInt() : chance.nextInt(300)); break;
            case 2: same("cell(" + k + ", " + i + ", " + lane + ")", x.cell(k, i, lane), m.cell(k, i, lane)); break;
            case 3: int o = num(3); same("copy(" + k + ", " + i + ", " + o + ", " + j + ", " + n + ")",
                x.copy(k, i, o, j, n), m.copy(k, i, o, j, n)); break;
            case 4: same("tell(" + f + ")", x.tell(f), m.tell(f)); break;
            case 5: same("knock(" + f + ")", x.knock(f), m.knock(f)); break;
            case 6: same("as(" + f + ", " + lane + ")", x.as(f, lane), m.as(f, lane)); break;
            case 7: yard(k, lane, i, n); break;
            case 8: loseNowAndThen(k); break;
            default: same("trace()", x.trace(), m.trace()); break;
        }
        if (chance.nextBoolean()) {
            faults();
        }
    }

    private void loseNowAndThen(int k) {
        if (chance.nextInt(4) == 0) {
            same("lose(" + k + ")", x.lose(k), m.lose(k));
        }
    }
}
