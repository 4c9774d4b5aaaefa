/**
 * One barrel in a yard, filled by rain, at which families draw, each at the height of its own tap.
 * What each call answers is told in DOC.md; the parts below stand in the order of that document.
 */
public final class BarrelTaps {
    public static final int UNKNOWN = -1, OUTSIDE = -2, STATE = -3, FULL = -4, NONE = -9;
    public static final long LOST = Long.MIN_VALUE;

    private static final int DAYS = 10, RISK_DAYS = 6;
    private static final int MOST_TAPS = 6, MOST_HEIGHT = 9, MOST_WATER = 99, MOST_RAIN = 99;
    private static final int MOST_LEAK = 9, MOST_STOLEN = 9, MOST_MARKS = 8;
    private static final int GREEDY = 1, OLDEST = 2;
    private static final int FROM_ABOVE = 0, FROM_BELOW = 1, BY_TURNS = 2;
    /** No law that can be set: from above, each its need and no more, as CAN wants it. */
    private static final int JUST_NEEDS = 3;
    private static final int SHEETS = 4, MOST_CELLS = 60;
    private static final int NOTHING = -1, BYTES = 0, SHORTS = 1, INTS = 2;
    private static final int NULL_FAULT = 1, CAST_FAULT = 2, INDEX_FAULT = 3, SIZE_FAULT = 4;

    private final Yard yard;
    private final Days days;
    private final Marks marks;
    private final Sheet[] sheets;
    private int traceLeft;
    private int lastFault;

    public BarrelTaps() {
        yard = new Yard();
        days = new Days(yard);
        marks = new Marks();
        sheets = new Sheet[SHEETS];
        for (int k = 0; k < SHEETS; k++) {
            sheets[k] = new Sheet();
        }
    }

    // ---- 1 the yard

    public int yard(int sheet, int lane, int i, int n) {
        lastFault = 0;
        if (noSheet(sheet)) {
            return UNKNOWN;
        }
        if (noLane(lane)) {
            return OUTSIDE;
        }
        Sheet row = sheets[sheet];
        int fault = row.faultAsLane(lane);
        if (fault == 0 && n < 0) {
            fault = SIZE_FAULT;
        }
        if (fault == 0 && !row.hasCells(i, n)) {
            fault = INDEX_FAULT;
        }
        if (fault != 0) {
            return failBy(fault);
        }
        int place = Text.firstFault(row, i, n);
        if (place >= 0) {
            return -100 - place;
        }
        yard.readFrom(row, i, n);
        marks.count = 0;
        return yard.tapCount;
    }

    public int ofTap(int f, int what) {
        if (noTap(f)) {
            return UNKNOWN;
        }
        Tap tap = yard.taps[f];
        switch (what) {
            case 0: return tap.kind;
            case 1: return tap.height;
            case 2: return tap.need;
            case 3: return tap.speed;
            case 4: return tap.wants();
            default: return OUTSIDE;
        }
    }

    public int bore(int f, int h) {
        if (noTap(f)) {
            return UNKNOWN;
        }
        if (isNot(0, h, MOST_HEIGHT)) {
            return OUTSIDE;
        }
        int was = yard.taps[f].height;
        yard.taps[f].height = h;
        return was;
    }

    public int begin(int v) {
        if (noYard()) {
            return STATE;
        }
        if (isNot(0, v, yard.cap)) {
            return OUTSIDE;
        }
        int was = yard.firstWater;
        yard.firstWater = v;
        return was;
    }

    public int rain(int day, int v) {
        if (noDay(day)) {
            return UNKNOWN;
        }
        if (isNot(0, v, MOST_RAIN)) {
            return OUTSIDE;
        }
        if (noYard()) {
            return STATE;
        }
        int was = yard.rainOn[day];
        yard.rainOn[day] = v;
        return was;
    }

    public int law(int v) {
        if (isNot(FROM_ABOVE, v, BY_TURNS)) {
            return OUTSIDE;
        }
        if (noYard()) {
            return STATE;
        }
        int was = yard.rule;
        yard.rule = v;
        return was;
    }

    public int leak(int height, int v) {
        if (isNot(0, height, MOST_HEIGHT) || isNot(0, v, MOST_LEAK)) {
            return OUTSIDE;
        }
        if (noYard()) {
            return STATE;
        }
        int was = 10 * yard.leakHeight + yard.leakPails;
        yard.leakHeight = height;
        yard.leakPails = v;
        return was;
    }

    // ---- 2 days

    public int got(int f, int day) {
        if (noTap(f) || noDay(day)) {
            return UNKNOWN;
        }
        passAsTold(day + 1);
        return days.drawnBy(f, day);
    }

    public int level(int day) {
        if (isNot(0, day, DAYS)) {
            return UNKNOWN;
        }
        if (noYard()) {
            return STATE;
        }
        passAsTold(day);
        return days.levels[day];
    }

    public int over(int day) {
        if (noDay(day)) {
            return UNKNOWN;
        }
        if (noYard()) {
            return STATE;
        }
        passAsTold(day + 1);
        return days.overs[day];
    }

    public int nobody(int day) {
        if (isNot(0, day, DAYS)) {
            return UNKNOWN;
        }
        if (noYard()) {
            return STATE;
        }
        passAsTold(day);
        return yard.beneathAllTaps(days.levels[day]);
    }

    public int dry(int f) {
        if (noTap(f)) {
            return UNKNOWN;
        }
        passAsTold(DAYS);
        return days.firstDry(f, DAYS);
    }

    // ---- 3 what all need

    public int can(int n) {
        if (isNot(0, n, DAYS)) {
            return OUTSIDE;
        }
        if (noYard()) {
            return STATE;
        }
        return days.allHaveNeeds(yard.firstWater, n) ? 1 : 0;
    }

    public int start(int n) {
        if (isNot(0, n, DAYS)) {
            return OUTSIDE;
        }
        if (noYard()) {
            return STATE;
        }
        for (int water = 0; water <= yard.cap; water++) {
            if (days.allHaveNeeds(water, n)) {
                return water;
            }
        }
        return NONE;
    }

    public int best(int n, int what) {
        if (isNot(0, n, DAYS) || isNot(0, what, 1)) {
            return OUTSIDE;
        }
        if (noYard()) {
            return STATE;
        }
        int bestRule = FROM_ABOVE;
        int most = -1;
        for (int rule = FROM_ABOVE; rule <= BY_TURNS; rule++) {
            days.startWith(yard.firstWater, rule);
            days.passDays(0, n);
            int neverDry = days.countNeverDry(n);
            if (neverDry > most) {
                most = neverDry;
                bestRule = rule;
            }
        }
        return what == 0 ? bestRule : most;
    }

    public int highest(int f, int n) {
        if (noTap(f)) {
            return UNKNOWN;
        }
        if (isNot(0, n, DAYS)) {
            return OUTSIDE;
        }
        Tap tap = yard.taps[f];
        int was = tap.height;
        int found = NONE;
        for (int height = MOST_HEIGHT; height >= 0 && found == NONE; height--) {
            tap.height = height;
            passAsTold(n);
            if (days.firstDry(f, n) == NONE) {
                found = height;
            }
        }
        tap.height = was;
        return found;
    }

    public long worst(int n, int which) {
        if (isNot(1, n, DAYS) || isNot(0, which, 1) || noYard()) {
            return LOST;
        }
        passAsTold(n);
        int upper = days.drawnInAll(0, n);
        int lower = yard.taps[0].need * n;
        for (int f = 1; f < yard.tapCount; f++) {
            int drawn = days.drawnInAll(f, n);
            int needed = yard.taps[f].need * n;
            if (drawn * lower < upper * needed) {
                upper = drawn;
                lower = needed;
            }
        }
        return inLeastTerms(upper, lower, which);
    }

    // ---- 4 risks, marks

    public long risk(int f, int n, int a, int b, int which) {
        if (noTap(f) || isNot(0, n, RISK_DAYS) || isNot(0, which, 1)) {
            return LOST;
        }
        if (isNot(0, a, MOST_RAIN) || isNot(0, b, MOST_RAIN)) {
            return LOST;
        }
        days.startWith(yard.firstWater, yard.rule);
        return inLeastTerms(dryRows(days, f, n, a, b, 0), 1 << n, which);
    }

    public int mark(int day, int v) {
        if (isNot(0, day, DAYS)) {
            return UNKNOWN;
        }
        if (isNot(0, v, MOST_WATER)) {
            return OUTSIDE;
        }
        if (noYard()) {
            return STATE;
        }
        if (marks.count >= MOST_MARKS) {
            return FULL;
        }
        return marks.addOne(day, v);
    }

    public int back(int k) {
        if (isNot(0, k, marks.count)) {
            return OUTSIDE;
        }
        marks.count -= k;
        return marks.count;
    }

    public int rains(int day, int k) {
        if (noDay(day) || k < -1) {
            return UNKNOWN;
        }
        if (noYard()) {
            return STATE;
        }
        passAsTold(day);
        int found = 0;
        int lastLevel = -1;
        boolean fits = false;
        for (int rainfall = 0; rainfall <= MOST_RAIN; rainfall++) {
            days.passDay(day, rainfall);
            // All that follows hangs on the level alone, and many rains leave the same one.
            if (days.levels[day + 1] != lastLevel) {
                lastLevel = days.levels[day + 1];
                fits = marksHoldBehind(day);
            }
            if (fits && found == k) {
                return rainfall;
            }
            found += fits ? 1 : 0;
        }
        return k == -1 ? found : NONE;
    }

    public int thief(int day, int v) {
        if (noDay(day)) {
            return UNKNOWN;
        }
        if (isNot(1, v, MOST_STOLEN)) {
            return OUTSIDE;
        }
        if (noYard()) {
            return STATE;
        }
        passAsTold(day + 1);
        int water = days.levels[day + 1];
        int set = 0;
        for (int f = 0; f < yard.tapCount; f++) {
            if (yard.givesAt(f, water) >= v) {
                days.levels[day + 1] = water - v;
                if (marksHoldBehind(day)) {
                    set |= 1 << f;
                }
            }
        }
        return set;
    }

    // ---- 5 sheets, parts

    public int sheet(int k, int lane, int n) {
        lastFault = 0;
        if (noSheet(k)) {
            return UNKNOWN;
        }
        if (noLane(lane) || n > MOST_CELLS) {
            return OUTSIDE;
        }
        if (n < 0) {
            return failBy(SIZE_FAULT);
        }
        sheets[k].makeRow(lane, n);
        return 1;
    }

    public int lose(int k) {
        if (noSheet(k)) {
            return UNKNOWN;
        }
        if (sheets[k].lane == NOTHING) {
            return 0;
        }
        sheets[k].lane = NOTHING;
        return 1;
    }

    public int put(int k, int i, int v) {
        lastFault = 0;
        if (noSheet(k)) {
            return UNKNOWN;
        }
        Sheet row = sheets[k];
        if (row.lane == NOTHING) {
            return failBy(NULL_FAULT);
        }
        if (!row.hasCells(i, 1)) {
            return failBy(INDEX_FAULT);
        }
        row.cells[i] = row.cutToLane(v);
        return 1;
    }

    public long cell(int k, int i, int lane) {
        lastFault = 0;
        if (noSheet(k) || noLane(lane)) {
            return LOST;
        }
        Sheet row = sheets[k];
        int fault = row.faultAsLane(lane);
        if (fault == 0 && !row.hasCells(i, 1)) {
            fault = INDEX_FAULT;
        }
        lastFault = fault;
        return fault == 0 ? row.cells[i] : LOST;
    }

    public int copy(int k, int i, int other, int j, int n) {
        lastFault = 0;
        if (noSheet(k) || noSheet(other)) {
            return UNKNOWN;
        }
        Sheet from = sheets[k];
        Sheet to = sheets[other];
        if (from.lane == NOTHING || to.lane == NOTHING) {
            return failBy(NULL_FAULT);
        }
        if (from.lane != to.lane) {
            return failBy(CAST_FAULT);
        }
        if (!from.hasCells(i, n) || !to.hasCells(j, n)) {
            return failBy(INDEX_FAULT);
        }
        System.arraycopy(from.cells, i, to.cells, j, n);
        return n;
    }

    public int tell(int f) {
        if (noTap(f)) {
            return UNKNOWN;
        }
        Tap tap = yard.taps[f];
        if (tap.kind == OLDEST) {
            return oldestTells(tap);
        }
        return tap.kind == GREEDY ? greedyTells(tap) : familyTells(tap);
    }

    public int knock(int f) {
        if (noTap(f)) {
            return UNKNOWN;
        }
        if (yard.taps[f].kind == OLDEST) {
            leaveTrace(5);
            return 70;
        }
        leaveTrace(4);
        return f;
    }

    public int as(int f, int kind) {
        lastFault = 0;
        if (noTap(f)) {
            return UNKNOWN;
        }
        if (isNot(0, kind, OLDEST)) {
            return OUTSIDE;
        }
        // Each kind is one of all kinds below it, so the numbers tell who is what.
        return yard.taps[f].kind < kind ? failBy(CAST_FAULT) : 1;
    }

    public int trace() {
        return traceLeft;
    }

    public int fault() {
        return lastFault;
    }

    public int many(int what) {
        switch (what) {
            case 0: return yard.tapCount;
            case 1: return yard.cap;
            case 2: return yard.per;
            case 3: return yard.rule;
            case 4: return marks.count;
            default: return OUTSIDE;
        }
    }

    // ---- what the calls share

    private boolean noYard() {
        return yard.tapCount == 0;
    }

    private boolean noTap(int f) {
        return f < 0 || f >= yard.tapCount;
    }

    private static boolean noDay(int day) {
        return isNot(0, day, DAYS - 1);
    }

    private static boolean noSheet(int k) {
        return isNot(0, k, SHEETS - 1);
    }

    private static boolean noLane(int lane) {
        return isNot(BYTES, lane, INTS);
    }

    private static boolean isNot(int least, int v, int most) {
        return v < least || v > most;
    }

    private int failBy(int fault) {
        lastFault = fault;
        return -10 - fault;
    }

    /** Days 0 .. n less 1, by what has been told of the yard. */
    private void passAsTold(int n) {
        days.startWith(yard.firstWater, yard.rule);
        days.passDays(0, n);
    }

    /** Whether all marks are so, when days 0 .. day have passed; lets pass as many more as that needs. */
    private boolean marksHoldBehind(int day) {
        int last = marks.lastDay();
        for (int ahead = 0; ahead <= last; ahead++) {
            if (ahead > day + 1) {
                days.passDay(ahead - 1, yard.rainOn[ahead - 1]);
            }
            if (!marks.holdAhead(ahead, days.levels[ahead])) {
                return false;
            }
        }
        return true;
    }

    /** Of all rows of rains a, b on days day .. n less 1, those by which one is dry that was not dry before. */
    private static int dryRows(Days days, int f, int n, int a, int b, int day) {
        if (day >= n) {
            return 0;
        }
        int dry = 0;
        for (int sort = 0; sort < 2; sort++) {
            days.passDay(day, sort == 0 ? a : b);
            dry += days.isDry(f, day) ? 1 << (n - 1 - day) : dryRows(days, f, n, a, b, day + 1);
        }
        return dry;
    }

    private static long inLeastTerms(int upper, int lower, int which) {
        int common = lower;
        int rest = upper;
        // Euclid's steps more than halve the numbers at every second step.
        for (int step = 0; step < 100 && rest > 0; step++) {
            int next = common % rest;
            common = rest;
            rest = next;
        }
        int part = which == 0 ? upper : lower;
        return common > 0 ? part / common : part;
    }

    private int familyTells(Tap tap) {
        leaveTrace(1);
        return tap.need;
    }

    private int greedyTells(Tap tap) {
        leaveTrace(2);
        return familyTells(tap) + 100;
    }

    private int oldestTells(Tap tap) {
        leaveTrace(3);
        int greedy = greedyTells(tap);
        return greedy + familyTells(tap);
    }

    private void leaveTrace(int body) {
        traceLeft = 31 * traceLeft + body;
    }

    /** A tap and the family that draws there. */
    private static final class Tap {
        int kind, height, need, speed;

        int wants() {
            if (kind == OLDEST) {
                return need + need / 2 + 1;
            }
            return kind == GREEDY ? need + need / 2 : need;
        }
    }

    /** What has been told of the barrel; its taps are made once and used again by each text. */
    private static final class Yard {
        final Tap[] taps = new Tap[MOST_TAPS];
        final int[] rainOn = new int[DAYS];
        int tapCount, cap, per, firstWater, rule, leakHeight, leakPails;

        Yard() {
            for (int f = 0; f < MOST_TAPS; f++) {
                taps[f] = new Tap();
            }
        }

        /** Takes a text in which no fault was found. */
        void readFrom(Sheet row, int i, int n) {
            cap = 10 * Text.digitAt(row, i + 1) + Text.digitAt(row, i + 2);
            per = Text.digitAt(row, i + 3);
            tapCount = Math.min((n - Text.HEAD) / Text.OF_TAP, MOST_TAPS);
            for (int f = 0; f < tapCount; f++) {
                int at = i + Text.HEAD + f * Text.OF_TAP;
                taps[f].kind = Text.kindOf(row.cells[at + 1]);
                taps[f].height = Text.digitAt(row, at + 2);
                taps[f].need = Text.digitAt(row, at + 3);
                taps[f].speed = Text.digitAt(row, at + 4);
            }
            firstWater = 0;
            rule = FROM_ABOVE;
            leakHeight = 0;
            leakPails = 0;
            for (int day = 0; day < DAYS; day++) {
                rainOn[day] = 0;
            }
        }

        int givesAt(int f, int water) {
            int above = water - taps[f].height * per;
            return above > 0 ? above : 0;
        }

        int leaksOut(int water) {
            return Math.min(leakPails, Math.max(0, water - leakHeight * per));
        }

        int beneathAllTaps(int water) {
            int most = 0;
            for (int f = 0; f < tapCount; f++) {
                most = Math.max(most, givesAt(f, water));
            }
            return water - most;
        }
    }

    /** The days as they pass: levels ahead of them, what ran over, what each drew; rows used by all calls. */
    private static final class Days {
        final int[] levels = new int[DAYS + 1];
        final int[] overs = new int[DAYS];
        private final Yard yard;
        private final int[] drawn = new int[DAYS * MOST_TAPS];
        private final int[] order = new int[MOST_TAPS];
        private int rule;

        Days(Yard yard) {
            this.yard = yard;
        }

        void startWith(int water, int byRule) {
            levels[0] = water;
            rule = byRule;
            for (int f = 0; f < yard.tapCount; f++) {
                int place = f;
                for (; place > 0 && drawsBefore(f, order[place - 1]); place--) {
                    order[place] = order[place - 1];
                }
                order[place] = f;
            }
        }

        private boolean drawsBefore(int f, int other) {
            int height = yard.taps[f].height;
            int otherHeight = yard.taps[other].height;
            return rule == FROM_BELOW ? height < otherHeight : height > otherHeight;
        }

        void passDays(int from, int to) {
            for (int day = from; day < to; day++) {
                passDay(day, yard.rainOn[day]);
            }
        }

        void passDay(int day, int rainfall) {
            int water = levels[day] + rainfall;
            overs[day] = Math.max(0, water - yard.cap);
            water -= overs[day];
            for (int f = 0; f < yard.tapCount; f++) {
                drawn[day * MOST_TAPS + f] = 0;
            }
            water -= rule == BY_TURNS ? drawByTurns(day, water) : drawInOrder(day, water);
            levels[day + 1] = water - yard.leaksOut(water);
        }

        private int drawInOrder(int day, int water) {
            int all = 0;
            for (int k = 0; k < yard.tapCount; k++) {
                Tap tap = yard.taps[order[k]];
                int wish = rule == JUST_NEEDS ? tap.need : tap.wants();
                all += draw(order[k], day, wish, water - all);
            }
            return all;
        }

        private int drawByTurns(int day, int water) {
            int all = 0;
            boolean someDrew = true;
            // A round in which one draws takes a pail at least, so there are no more of them than pails.
            for (int round = 0; round <= MOST_WATER && someDrew; round++) {
                int before = all;
                for (int f = 0; f < yard.tapCount; f++) {
                    Tap tap = yard.taps[f];
                    int wish = Math.min(tap.speed, tap.wants() - drawnBy(f, day));
                    all += draw(f, day, wish, water - all);
                }
                someDrew = all > before;
            }
            return all;
        }

        private int draw(int f, int day, int wish, int water) {
            int pails = Math.min(wish, yard.givesAt(f, water));
            drawn[day * MOST_TAPS + f] += pails;
            return pails;
        }

        int drawnBy(int f, int day) {
            return drawn[day * MOST_TAPS + f];
        }

        int drawnInAll(int f, int n) {
            int all = 0;
            for (int day = 0; day < n; day++) {
                all += drawnBy(f, day);
            }
            return all;
        }

        boolean isDry(int f, int day) {
            return drawnBy(f, day) < yard.taps[f].need;
        }

        int firstDry(int f, int n) {
            for (int day = 0; day < n; day++) {
                if (isDry(f, day)) {
                    return day;
                }
            }
            return NONE;
        }

        int countNeverDry(int n) {
            int count = 0;
            for (int f = 0; f < yard.tapCount; f++) {
                if (firstDry(f, n) == NONE) {
                    count++;
                }
            }
            return count;
        }

        boolean allHaveNeeds(int water, int n) {
            startWith(water, JUST_NEEDS);
            for (int day = 0; day < n; day++) {
                passDay(day, yard.rainOn[day]);
                for (int f = 0; f < yard.tapCount; f++) {
                    if (isDry(f, day)) {
                        return false;
                    }
                }
            }
            return true;
        }
    }

    /** Marks on the wood: how high the water stood ahead of a day. */
    private static final class Marks {
        private final int[] day = new int[MOST_MARKS];
        private final int[] height = new int[MOST_MARKS];
        int count;

        /** Only while there are fewer than MOST_MARKS. */
        int addOne(int ofDay, int v) {
            int number = count;
            day[number] = ofDay;
            height[number] = v;
            count++;
            return number;
        }

        int lastDay() {
            int last = 0;
            for (int k = 0; k < count; k++) {
                last = Math.max(last, day[k]);
            }
            return last;
        }

        boolean holdAhead(int ofDay, int water) {
            for (int k = 0; k < count; k++) {
                if (day[k] == ofDay && height[k] != water) {
                    return false;
                }
            }
            return true;
        }
    }

    /** Nothing, or a row of a lane; its cells are made once, so that a new row makes no new object. */
    private static final class Sheet {
        final int[] cells = new int[MOST_CELLS];
        int lane = NOTHING;
        private int size;

        void makeRow(int ofLane, int n) {
            lane = ofLane;
            size = n;
            for (int i = 0; i < n; i++) {
                cells[i] = 0;
            }
        }

        /** Whether n cells from i on are there, without a sum that could wrap. */
        boolean hasCells(int i, int n) {
            return i >= 0 && i <= size && n >= 0 && n <= size - i;
        }

        int faultAsLane(int asLane) {
            if (lane == NOTHING) {
                return NULL_FAULT;
            }
            return lane == asLane ? 0 : CAST_FAULT;
        }

        int cutToLane(int v) {
            if (lane == BYTES) {
                return (byte) v;
            }
            return lane == SHORTS ? (short) v : v;
        }
    }

    /** The text of a yard: a head of four codes, then five codes for each tap. */
    private static final class Text {
        static final int HEAD = 4, OF_TAP = 5;

        private Text() {
        }

        /** -1 if there is none. */
        static int firstFault(Sheet row, int i, int n) {
            for (int place = 0; place < n; place++) {
                int code = row.cells[i + place];
                if (!goesOnWith(place, code)) {
                    return place;
                }
                // A barrel that holds nothing is known by its second digit, but told by its first.
                if (place == 2 && code == '0' && row.cells[i + 1] == '0') {
                    return 1;
                }
            }
            boolean endsBehindTap = n > HEAD && (n - HEAD) % OF_TAP == 0;
            return endsBehindTap ? -1 : n;
        }

        private static boolean goesOnWith(int place, int code) {
            if (place >= HEAD) {
                return place < HEAD + MOST_TAPS * OF_TAP && tapGoesOnWith((place - HEAD) % OF_TAP, code);
            }
            switch (place) {
                case 0: return code == 'y';
                case 3: return isDigit(code) && code != '0';
                default: return isDigit(code);
            }
        }

        private static boolean tapGoesOnWith(int place, int code) {
            switch (place) {
                case 0: return code == ';';
                case 1: return code == 'f' || code == 'g' || code == 'o';
                case 2: return isDigit(code);
                default: return isDigit(code) && code != '0';
            }
        }

        private static boolean isDigit(int code) {
            return code >= '0' && code <= '9';
        }

        static int digitAt(Sheet row, int at) {
            return row.cells[at] - '0';
        }

        static int kindOf(int code) {
            if (code == 'o') {
                return OLDEST;
            }
            return code == 'g' ? GREEDY : 0;
        }
    }
}
