/** What the tests share: counting wrong answers, and making yards out of texts. */
final class Check {
    private final String test;
    private String sentence = "";
    private int calls = 0;
    private int wrong = 0;
    private int callsBefore = 0;

    Check(String test) {
        this.test = test;
    }

    void due(String call, long got, long want) {
        calls++;
        if (got != want) {
            wrong++;
            System.out.println(test + sentence + ": " + call + " answered " + got + ", due is " + want);
        }
    }

    void holds(String what, boolean so) {
        due(what, so ? 1 : 0, 1);
    }

    void same(String what, String got, String want) {
        holds(what + ": " + got + ", due is " + want, got.equals(want));
    }

    /** What follows tests this sentence of the document; a sentence that nothing tests is a fault of the test. */
    void says(String ofDocument) {
        endSentence();
        sentence = " (" + ofDocument + ")";
        callsBefore = calls;
    }

    private void endSentence() {
        if (!sentence.isEmpty() && calls == callsBefore) {
            wrong++;
            System.out.println(test + ": nothing tests" + sentence);
        }
    }

    void end() {
        endSentence();
        System.out.println(test + ": " + calls + " answers, " + wrong + " wrong");
        if (wrong != 0 || calls == 0) {
            System.exit(1);
        }
    }

    /** Writes a text to a sheet of a lane, some cells behind its beginning. */
    static void write(BarrelTaps x, int sheet, int lane, int at, String text) {
        x.sheet(sheet, lane, at + text.length());
        for (int k = 0; k < text.length(); k++) {
            x.put(sheet, at + k, text.charAt(k));
        }
    }

    static int read(BarrelTaps x, String text) {
        write(x, 0, 0, 0, text);
        return x.yard(0, 0, 0, text.length());
    }

    static BarrelTaps yard(String text) {
        BarrelTaps x = new BarrelTaps();
        int taps = read(x, text);
        if (taps < 1) {
            throw new IllegalStateException("no yard by " + text + ": " + taps);
        }
        return x;
    }

    static void rainRow(BarrelTaps x, int... pails) {
        for (int day = 0; day < pails.length; day++) {
            x.rain(day, pails[day]);
        }
    }
}
