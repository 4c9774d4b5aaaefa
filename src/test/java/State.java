/**
 * All that can be asked of an object, but fault(), as a text: two objects of which it is the same have the same in
 * them. It asks some 200 calls and takes the marks back, so it is the last thing that is done with an object.
 */
final class State {
    private final BarrelTaps x;
    private final StringBuilder text = new StringBuilder();

    private State(BarrelTaps x) {
        this.x = x;
    }

    static String of(BarrelTaps x) {
        State state = new State(x);
        state.numbers();
        state.sheets();
        state.taps();
        if (x.many(0) > 0) {
            state.told();
            state.marks();
        }
        return state.text.toString();
    }

    private void add(String name, long... answers) {
        text.append(name);
        for (long v : answers) {
            text.append(' ').append(v);
        }
        text.append("; ");
    }

    private void numbers() {
        add("many", x.many(0), x.many(1), x.many(2), x.many(3), x.many(4));
        add("trace", x.trace());
    }

    private void sheets() {
        for (int k = 0; k < 4; k++) {
            int lane = 0;
            long cell = x.cell(k, 0, lane);
            while (x.fault() == 2) {
                lane++;
                cell = x.cell(k, 0, lane);
            }
            add("sheet", k, x.fault() == 1 ? -1 : lane);
            for (int i = 1; x.fault() == 0; i++) {
                add("", cell);
                cell = x.cell(k, i, lane);
            }
        }
    }

    private void taps() {
        for (int f = 0; f < x.many(0); f++) {
            add("tap", x.ofTap(f, 0), x.ofTap(f, 1), x.ofTap(f, 2), x.ofTap(f, 3));
        }
    }

    private void told() {
        int water = x.begin(0);
        x.begin(water);
        int leak = x.leak(0, 0);
        x.leak(leak / 10, leak % 10);
        add("water, leak", water, leak);
        for (int day = 0; day < 10; day++) {
            int pails = x.rain(day, 0);
            x.rain(day, pails);
            add("", pails);
        }
    }

    /** Marks can't be read, but for what they let be. */
    private void marks() {
        for (int left = x.many(4); left > 0; left = x.back(1)) {
            add("marks", left);
            for (int day = 0; day < 10; day += 3) {
                add("", x.rains(day, -1), x.rains(day, 0), x.thief(day, 1));
            }
        }
    }
}
