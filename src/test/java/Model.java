import java.lang.reflect.Array;
import java.util.ArrayList;
import java.util.Arrays;
import java.util.Comparator;
import java.util.List;
import java.util.regex.Matcher;
import java.util.regex.Pattern;

/**
 * The document once more, written another way: the faults are the Java machine's own, families are classes,
 * water is drawn pail by pail. ModelTest holds BarrelTaps against it.
 */
final class Model {
    private static final int UNKNOWN = -1, OUTSIDE = -2, STATE = -3, FULL = -4, NONE = -9;
    private static final long LOST = Long.MIN_VALUE;
    private static final Pattern TEXT = Pattern.compile("y(0[1-9]|[1-9][0-9])[1-9](;[fgo][0-9][1-9][1-9]){1,6}");

    /** A refusal, on its way out of a call. */
    private static final class Refused extends RuntimeException {
        private static final long serialVersionUID = 1L;
        final int by;

        Refused(int by) {
            super(null, null, false, false);
            this.by = by;
        }
    }

    private interface Call {
        long answer();
    }

    private interface Knocked {
        int number();

        void leave(int body);

        default int knocked() {
            leave(4);
            return number();
        }
    }

    private class Family implements Knocked {
        final int number;
        int height;
        final int need;
        final int speed;

        Family(int number, int height, int need, int speed) {
            this.number = number;
            this.height = height;
            this.need = need;
            this.speed = speed;
        }

        public int number() {
            return number;
        }

        public void leave(int body) {
            trace = trace * 31 + body;
        }

        int kind() {
            return 0;
        }

        int wants() {
            return need;
        }

        int telling() {
            return ownTelling();
        }

        final int ownTelling() {
            leave(1);
            return need;
        }
    }

    private class Greedy extends Family {
        Greedy(int number, int height, int need, int speed) {
            super(number, height, need, speed);
        }

        int kind() {
            return 1;
        }

        int wants() {
            return need + need / 2;
        }

        int telling() {
            leave(2);
            return super.telling() + 100;
        }
    }

    private final class Oldest extends Greedy {
        Oldest(int number, int height, int need, int speed) {
            super(number, height, need, speed);
        }

        int kind() {
            return 2;
        }

        int wants() {
            return super.wants() + 1;
        }

        int telling() {
            leave(3);
            int greedy = super.telling();
            return greedy + ownTelling();
        }

        public int knocked() {
            leave(5);
            return 70;
        }
    }

    /** What one row of rain, one law and one thief lead to. */
    private final class Run {
        final int[] level = new int[11];
        final int[] over = new int[10];
        final int[][] got = new int[10][families.size()];
        boolean theft = true;

        Run(int water, int[] rain, int law, boolean needsAlone, int night, int tap, int stolen) {
            level[0] = water;
            for (int day = 0; day < 10; day++) {
                int now = level[day];
                for (int drop = 0; drop < rain[day]; drop++) {
                    if (now < cap) {
                        now++;
                    } else {
                        over[day]++;
                    }
                }
                now = law == 2 ? turns(day, now) : ranks(day, now, law, needsAlone);
                for (int k = 0; k < leakPails && now > leakHeight * per; k++) {
                    now--;
                }
                for (int k = 0; day == night && k < stolen; k++) {
                    theft &= now > families.get(tap).height * per;
                    now--;
                }
                level[day + 1] = now;
            }
        }

        private int ranks(int day, int water, int law, boolean needsAlone) {
            List<Family> row = new ArrayList<>(families);
            Comparator<Family> byHeight = Comparator.comparingInt(f -> f.height);
            row.sort(law == 0 ? byHeight.reversed() : byHeight);
            int now = water;
            for (Family f : row) {
                int wish = needsAlone ? f.need : f.wants();
                while (got[day][f.number] < wish && now > f.height * per) {
                    got[day][f.number]++;
                    now--;
                }
            }
            return now;
        }

        private int turns(int day, int water) {
            int now = water;
            int before;
            do {
                before = now;
                for (Family f : families) {
                    for (int k = 0; k < f.speed; k++) {
                        if (got[day][f.number] < f.wants() && now > f.height * per) {
                            got[day][f.number]++;
                            now--;
                        }
                    }
                }
            } while (now != before);
            return now;
        }

        int dry(int f, int n) {
            for (int day = 0; day < n; day++) {
                if (got[day][f] < families.get(f).need) {
                    return day;
                }
            }
            return NONE;
        }

        int neverDry(int n) {
            int count = 0;
            for (Family f : families) {
                count += dry(f.number, n) == NONE ? 1 : 0;
            }
            return count;
        }

        boolean fitsMarks() {
            return marks.stream().allMatch(m -> level[m[0]] == m[1]);
        }
    }

    private List<Family> families = new ArrayList<>();
    private int cap, per, water, law, leakHeight, leakPails, trace, fault;
    private int[] rain = new int[10];
    private final List<int[]> marks = new ArrayList<>();
    private final Object[] sheets = new Object[4];

    private static void need(boolean so, int refusal) {
        if (!so) {
            throw new Refused(refusal);
        }
    }

    private static void in(int least, int v, int most, int refusal) {
        need(least <= v && v <= most, refusal);
    }

    private void tapIs(int f) {
        in(0, f, families.size() - 1, UNKNOWN);
    }

    private void yardIs() {
        need(!families.isEmpty(), STATE);
    }

    private int answer(Call call) {
        try {
            return (int) call.answer();
        } catch (Refused r) {
            return r.by;
        }
    }

    private long longAnswer(Call call) {
        try {
            return call.answer();
        } catch (Refused r) {
            return LOST;
        }
    }

    /** The machine's own exceptions become faults. */
    private long byMachine(Call call) {
        fault = 0;
        try {
            return call.answer();
        } catch (NullPointerException e) {
            fault = 1;
        } catch (ClassCastException | ArrayStoreException e) {
            fault = 2;
        } catch (IndexOutOfBoundsException e) {
            fault = 3;
        } catch (NegativeArraySizeException e) {
            fault = 4;
        }
        throw new Refused(-10 - fault);
    }

    private Object taken(int k, int lane) {
        switch (lane) {
            case 0: return (byte[]) sheets[k];
            case 1: return (short[]) sheets[k];
            default: return (int[]) sheets[k];
        }
    }

    private static int at(Object row, int i) {
        return ((Number) Array.get(row, i)).intValue();
    }

    private Run asIs() {
        return new Run(water, rain, law, false, -1, 0, 0);
    }

    int yard(int sheet, int lane, int i, int n) {
        return answer(() -> byMachine(() -> {
            in(0, sheet, 3, UNKNOWN);
            in(0, lane, 2, OUTSIDE);
            Object row = taken(sheet, lane);
            if (row == null) {
                throw new NullPointerException();
            }
            if (n < 0) {
                throw new NegativeArraySizeException();
            }
            Object part = Array.newInstance(row.getClass().getComponentType(), Math.min(n, 1000));
            System.arraycopy(row, i, part, 0, n);
            StringBuilder text = new StringBuilder();
            for (int k = 0; k < n; k++) {
                int code = at(part, k);
                text.append(code > 0 && code < 128 ? (char) code : '?');
            }
            int place = firstFault(text.toString());
            need(place < 0, -100 - place);
            take(text.toString());
            return families.size();
        }));
    }

    private static int firstFault(String text) {
        if (TEXT.matcher(text).matches()) {
            return -1;
        }
        for (int k = 1; k <= text.length(); k++) {
            Matcher m = TEXT.matcher(text.substring(0, k));
            if (!m.matches() && !m.hitEnd()) {
                return text.startsWith("y00") && k == 3 ? 1 : k - 1;
            }
        }
        return text.length();
    }

    private void take(String text) {
        families = new ArrayList<>();
        String[] parts = text.split(";");
        cap = Integer.parseInt(parts[0].substring(1, 3));
        per = Integer.parseInt(parts[0].substring(3));
        for (int k = 1; k < parts.length; k++) {
            int number = Integer.parseInt(parts[k].substring(1));
            int h = number / 100;
            int need = number / 10 % 10;
            int speed = number % 10;
            char c = parts[k].charAt(0);
            families.add(c == 'f' ? new Family(k - 1, h, need, speed)
                : c == 'g' ? new Greedy(k - 1, h, need, speed) : new Oldest(k - 1, h, need, speed));
        }
        water = 0;
        law = 0;
        leakHeight = 0;
        leakPails = 0;
        rain = new int[10];
        marks.clear();
    }

    int ofTap(int f, int what) {
        return answer(() -> {
            tapIs(f);
            in(0, what, 4, OUTSIDE);
            Family t = families.get(f);
            return new int[] {t.kind(), t.height, t.need, t.speed, t.wants()}[what];
        });
    }

    int bore(int f, int h) {
        return answer(() -> {
            tapIs(f);
            in(0, h, 9, OUTSIDE);
            int was = families.get(f).height;
            families.get(f).height = h;
            return was;
        });
    }

    int begin(int v) {
        return answer(() -> {
            yardIs();
            in(0, v, cap, OUTSIDE);
            int was = water;
            water = v;
            return was;
        });
    }

    int rain(int day, int v) {
        return answer(() -> {
            in(0, day, 9, UNKNOWN);
            in(0, v, 99, OUTSIDE);
            yardIs();
            int was = rain[day];
            rain[day] = v;
            return was;
        });
    }

    int law(int v) {
        return answer(() -> {
            in(0, v, 2, OUTSIDE);
            yardIs();
            int was = law;
            law = v;
            return was;
        });
    }

    int leak(int height, int v) {
        return answer(() -> {
            in(0, height, 9, OUTSIDE);
            in(0, v, 9, OUTSIDE);
            yardIs();
            int was = leakHeight * 10 + leakPails;
            leakHeight = height;
            leakPails = v;
            return was;
        });
    }

    int got(int f, int day) {
        return answer(() -> {
            tapIs(f);
            in(0, day, 9, UNKNOWN);
            return asIs().got[day][f];
        });
    }

    int level(int day) {
        return answer(() -> {
            in(0, day, 10, UNKNOWN);
            yardIs();
            return asIs().level[day];
        });
    }

    int over(int day) {
        return answer(() -> {
            in(0, day, 9, UNKNOWN);
            yardIs();
            return asIs().over[day];
        });
    }

    int nobody(int day) {
        return answer(() -> {
            in(0, day, 10, UNKNOWN);
            yardIs();
            int lowest = families.stream().mapToInt(f -> f.height).min().getAsInt();
            return Math.min(asIs().level[day], lowest * per);
        });
    }

    int dry(int f) {
        return answer(() -> {
            tapIs(f);
            return asIs().dry(f, 10);
        });
    }

    private boolean allCan(int first, int n) {
        return new Run(first, rain, 0, true, -1, 0, 0).neverDry(n) == families.size();
    }

    int can(int n) {
        return answer(() -> {
            in(0, n, 10, OUTSIDE);
            yardIs();
            return allCan(water, n) ? 1 : 0;
        });
    }

    int start(int n) {
        return answer(() -> {
            in(0, n, 10, OUTSIDE);
            yardIs();
            int least = NONE;
            for (int v = cap; v >= 0; v--) {
                least = allCan(v, n) ? v : least;
            }
            return least;
        });
    }

    int best(int n, int what) {
        return answer(() -> {
            in(0, n, 10, OUTSIDE);
            in(0, what, 1, OUTSIDE);
            yardIs();
            int[] count = new int[3];
            for (int v = 0; v <= 2; v++) {
                count[v] = new Run(water, rain, v, false, -1, 0, 0).neverDry(n);
            }
            int most = Math.max(count[0], Math.max(count[1], count[2]));
            return what == 1 ? most : count[0] == most ? 0 : count[1] == most ? 1 : 2;
        });
    }

    int highest(int f, int n) {
        return answer(() -> {
            tapIs(f);
            in(0, n, 10, OUTSIDE);
            int was = families.get(f).height;
            int found = NONE;
            for (int h = 0; h <= 9; h++) {
                families.get(f).height = h;
                found = asIs().dry(f, n) == NONE ? h : found;
            }
            families.get(f).height = was;
            return found;
        });
    }

    private static long share(long upper, long lower, int which) {
        for (long d = lower; d > 1; d--) {
            if (upper % d == 0 && lower % d == 0) {
                return share(upper / d, lower / d, which);
            }
        }
        return which == 0 ? upper : lower;
    }

    long worst(int n, int which) {
        return longAnswer(() -> {
            in(1, n, 10, OUTSIDE);
            in(0, which, 1, OUTSIDE);
            yardIs();
            Run run = asIs();
            long[] least = null;
            for (Family f : families) {
                long all = Arrays.stream(run.got).limit(n).mapToLong(row -> row[f.number]).sum();
                long[] mine = {all, (long) f.need * n};
                if (least == null || Double.compare((double) mine[0] / mine[1], (double) least[0] / least[1]) < 0) {
                    least = mine;
                }
            }
            return share(least[0], least[1], which);
        });
    }

    private int dryRows(int f, int n, int a, int b, int[] row, int day) {
        if (day == n) {
            return new Run(water, row, law, false, -1, 0, 0).dry(f, n) == NONE ? 0 : 1;
        }
        int count = 0;
        for (int v : new int[] {a, b}) {
            int[] next = row.clone();
            next[day] = v;
            count += dryRows(f, n, a, b, next, day + 1);
        }
        return count;
    }

    long risk(int f, int n, int a, int b, int which) {
        return longAnswer(() -> {
            tapIs(f);
            in(0, n, 6, OUTSIDE);
            in(0, a, 99, OUTSIDE);
            in(0, b, 99, OUTSIDE);
            in(0, which, 1, OUTSIDE);
            return share(dryRows(f, n, a, b, new int[10], 0), 1L << n, which);
        });
    }

    int mark(int day, int v) {
        return answer(() -> {
            in(0, day, 10, UNKNOWN);
            in(0, v, 99, OUTSIDE);
            yardIs();
            need(marks.size() < 8, FULL);
            marks.add(new int[] {day, v});
            return marks.size() - 1;
        });
    }

    int back(int k) {
        return answer(() -> {
            in(0, k, marks.size(), OUTSIDE);
            marks.subList(marks.size() - k, marks.size()).clear();
            return marks.size();
        });
    }

    int rains(int day, int k) {
        return answer(() -> {
            in(0, day, 9, UNKNOWN);
            need(k >= -1, UNKNOWN);
            yardIs();
            List<Integer> fits = new ArrayList<>();
            for (int v = 0; v <= 99; v++) {
                int[] row = rain.clone();
                row[day] = v;
                if (new Run(water, row, law, false, -1, 0, 0).fitsMarks()) {
                    fits.add(v);
                }
            }
            return k == -1 ? fits.size() : k < fits.size() ? fits.get(k) : NONE;
        });
    }

    int thief(int day, int v) {
        return answer(() -> {
            in(0, day, 9, UNKNOWN);
            in(1, v, 9, OUTSIDE);
            yardIs();
            int set = 0;
            for (Family f : families) {
                Run run = new Run(water, rain, law, false, day, f.number, v);
                if (run.theft && run.fitsMarks()) {
                    set += 1 << f.number;
                }
            }
            return set;
        });
    }

    int sheet(int k, int lane, int n) {
        return answer(() -> byMachine(() -> {
            in(0, k, 3, UNKNOWN);
            in(0, lane, 2, OUTSIDE);
            need(n <= 60, OUTSIDE);
            sheets[k] = lane == 0 ? new byte[n] : lane == 1 ? new short[n] : new int[n];
            return 1;
        }));
    }

    int lose(int k) {
        return answer(() -> {
            in(0, k, 3, UNKNOWN);
            int had = sheets[k] == null ? 0 : 1;
            sheets[k] = null;
            return had;
        });
    }

    int put(int k, int i, int v) {
        return answer(() -> byMachine(() -> {
            in(0, k, 3, UNKNOWN);
            if (sheets[k] instanceof byte[] row) {
                row[i] = (byte) v;
            } else if (sheets[k] instanceof short[] row) {
                row[i] = (short) v;
            } else {
                ((int[]) sheets[k])[i] = v;
            }
            return 1;
        }));
    }

    long cell(int k, int i, int lane) {
        return longAnswer(() -> byMachine(() -> {
            in(0, k, 3, UNKNOWN);
            in(0, lane, 2, OUTSIDE);
            return at(taken(k, lane), i);
        }));
    }

    int copy(int k, int i, int other, int j, int n) {
        return answer(() -> byMachine(() -> {
            in(0, k, 3, UNKNOWN);
            in(0, other, 3, UNKNOWN);
            System.arraycopy(sheets[k], i, sheets[other], j, n);
            return n;
        }));
    }

    int tell(int f) {
        return answer(() -> {
            tapIs(f);
            return families.get(f).telling();
        });
    }

    int knock(int f) {
        return answer(() -> {
            tapIs(f);
            return families.get(f).knocked();
        });
    }

    int as(int f, int kind) {
        return answer(() -> byMachine(() -> {
            tapIs(f);
            in(0, kind, 2, OUTSIDE);
            Class<?>[] kinds = {Family.class, Greedy.class, Oldest.class};
            kinds[kind].cast(families.get(f));
            return 1;
        }));
    }

    int trace() {
        return trace;
    }

    int fault() {
        return fault;
    }

    int many(int what) {
        return answer(() -> {
            in(0, what, 4, OUTSIDE);
            return new int[] {families.size(), cap, per, law, marks.size()}[what];
        });
    }
}
