import java.util.ArrayList;
import java.util.List;

/**
 * The document written down once more, slowly and plainly: each LOOK is judged by walking all
 * constraints from scratch, and sets are listed and sorted before they are asked.
 */
final class Oracle {
    private static final int LAST = 985999;

    private static final class Said {
        int event, what, a, b, c, weight, of = -1;
        boolean taken = true;
        List<int[]> spans = new ArrayList<>();
    }

    private static final class Spent extends Exception {
        private static final long serialVersionUID = 1L;
    }

    private final List<int[]> kings = new ArrayList<>();
    private final List<Said> sayings = new ArrayList<>();
    private List<Integer> slipSets = new ArrayList<>();
    private int events = 0;
    private int looks = 0;
    private int[] first, last;
    private boolean way;

    int king(int calendar, int a, int b) {
        if (calendar < 0 || calendar > 2 || a < 0 || b > LAST || a > b || kings.size() == 6) {
            return -1;
        }
        kings.add(new int[] {calendar, a, b});
        return kings.size() - 1;
    }

    int event() {
        return events == 6 ? -1 : events++;
    }

    int say(int event, int what, int a, int b, int c, int weight) {
        if (event < 0 || event >= events || weight < 1 || weight > 100 || sayings.size() == 12) {
            return -1;
        }
        Said s = new Said();
        s.event = event;
        s.what = what;
        s.a = a;
        s.b = b;
        s.c = c;
        s.weight = weight;
        if (what == 6) {
            if (c < 0 || c >= events || c == event || a > b || a < -40000 || b > 40000) {
                return -1;
            }
        } else {
            s.spans = spansOf(what, a, b, c);
            if (s.spans.isEmpty()) {
                return -1;
            }
        }
        sayings.add(s);
        return sayings.size() - 1;
    }

    private List<int[]> spansOf(int what, int a, int b, int c) {
        List<int[]> spans = new ArrayList<>();
        if (what == 0 && a >= 0 && a <= b && b <= LAST) {
            spans.add(new int[] {a, b});
        } else if (what == 1) {
            addDay(spans, Walk.day(a, b, c / 100, c % 100));
        } else if (what == 2 || what == 3) {
            addAllDates(spans, a, b, what == 2 ? c : 1, what == 2 ? c : 13);
        } else if (what == 4 && a >= 0 && a < kings.size() && b >= 1 && b <= 60) {
            int[] king = kings.get(a);
            int from = Walk.years(king[0], king[1], b - 1);
            int to = Walk.years(king[0], king[2], b);
            if (from >= 0 && to >= 0) {
                spans.add(new int[] {from, to - 1});
            }
        } else if (what == 5) {
            for (long year = b; year <= b + 9L; year++) {
                if (year >= 1 && year <= 2699) {
                    addDay(spans, Walk.day(a, (int) year, c / 100, c % 100));
                }
            }
        }
        return spans;
    }

    private static void addDay(List<int[]> spans, int day) {
        if (day >= 0) {
            spans.add(new int[] {day, day});
        }
    }

    /** All DAYS with a date of the year, from one month to another. */
    private static void addAllDates(List<int[]> spans, int calendar, int year, int month, int lastMonth) {
        int from = -1;
        int to = -1;
        for (int m = month; m <= lastMonth; m++) {
            for (int d = 1; d <= 31; d++) {
                int day = Walk.day(calendar, year, m, d);
                from = from < 0 ? day : from;
                to = Math.max(to, day);
            }
        }
        if (from >= 0) {
            spans.add(new int[] {from, to});
        }
    }

    private boolean is(int saying) {
        return saying >= 0 && saying < sayings.size();
    }

    boolean copy(int saying, int of) {
        if (!is(saying) || !is(of) || of >= saying || sayings.get(saying).of >= 0) {
            return false;
        }
        sayings.get(saying).of = of;
        return true;
    }

    boolean take(int saying, boolean on) {
        if (!is(saying) || sayings.get(saying).taken == on) {
            return false;
        }
        sayings.get(saying).taken = on;
        return true;
    }

    private int root(int saying) {
        return sayings.get(saying).of < 0 ? saying : root(sayings.get(saying).of);
    }

    int look(int saying, int what) {
        if (!is(saying) || what < 0 || what > 6) {
            return -1;
        }
        Said s = sayings.get(saying);
        return new int[] {s.event, s.what, s.weight, s.taken ? 1 : 0, s.of, root(saying), s.spans.size()}[what];
    }

    int span(int saying, int k, boolean last) {
        if (!is(saying) || k < 0 || k >= sayings.get(saying).spans.size()) {
            return -1;
        }
        return sayings.get(saying).spans.get(k)[last ? 1 : 0];
    }

    private List<Integer> taken() {
        List<Integer> all = new ArrayList<>();
        for (int k = 0; k < sayings.size(); k++) {
            if (sayings.get(k).taken) {
                all.add(k);
            }
        }
        return all;
    }

    private List<List<int[]>> eventSpans(List<Integer> set, int findEvent, int findDay) {
        List<List<int[]>> all = new ArrayList<>();
        for (int e = 0; e < events; e++) {
            List<int[]> mine = new ArrayList<>();
            mine.add(e == findEvent ? new int[] {findDay, findDay} : new int[] {0, LAST});
            for (int k : set) {
                if (sayings.get(k).event == e && sayings.get(k).what != 6) {
                    mine = common(mine, sayings.get(k).spans);
                }
            }
            all.add(mine);
        }
        return all;
    }

    private static List<int[]> common(List<int[]> one, List<int[]> other) {
        List<int[]> both = new ArrayList<>();
        for (int[] p : one) {
            for (int[] q : other) {
                int from = Math.max(p[0], q[0]);
                int to = Math.min(p[1], q[1]);
                if (from <= to) {
                    both.add(new int[] {from, to});
                }
            }
        }
        both.sort((p, q) -> Integer.compare(p[0], q[0]));
        return both;
    }

    /** Bounds of all EVENTS by moving them till nothing moves; null if they cross. */
    private int[][] bounds(List<Integer> set, List<int[]> chosen) {
        int[] low = new int[events];
        int[] high = new int[events];
        for (int e = 0; e < events; e++) {
            low[e] = e < chosen.size() ? chosen.get(e)[0] : 0;
            high[e] = e < chosen.size() ? chosen.get(e)[1] : LAST;
        }
        // Circles of BEHINDs that can't be would move the bounds by one DAY at a time, perhaps, so
        // rounds are bounded: what still moves after as many rounds as there are EVENTS never ends.
        boolean moved = true;
        for (int round = 0; moved; round++) {
            moved = false;
            for (int k : set) {
                Said s = sayings.get(k);
                if (s.what == 6) {
                    moved |= pull(low, high, s.c, s.event, s.a, s.b);
                    moved |= pull(low, high, s.event, s.c, -s.b, -s.a);
                }
            }
            for (int e = 0; e < events; e++) {
                if (low[e] > high[e]) {
                    return null;
                }
            }
            if (moved && round > 2 * events + 2) {
                return null;
            }
        }
        return new int[][] {low, high};
    }

    /** EVENT "to" lies least .. most DAYS behind EVENT "from". */
    private static boolean pull(int[] low, int[] high, int from, int to, int least, int most) {
        boolean moved = false;
        if (low[from] + least > low[to]) {
            low[to] = low[from] + least;
            moved = true;
        }
        if (high[from] + most < high[to]) {
            high[to] = high[from] + most;
            moved = true;
        }
        return moved;
    }

    private void ask(List<Integer> set, int findEvent, int findDay, boolean tillOne) throws Spent {
        way = false;
        first = new int[events];
        last = new int[events];
        go(set, eventSpans(set, findEvent, findDay), new ArrayList<>(), tillOne);
    }

    private void go(List<Integer> set, List<List<int[]>> spans, List<int[]> chosen, boolean tillOne) throws Spent {
        int event = chosen.size();
        if (event == events) {
            int[][] bounds = bounds(set, chosen);
            for (int e = 0; e < events; e++) {
                first[e] = way ? Math.min(first[e], bounds[0][e]) : bounds[0][e];
                last[e] = way ? Math.max(last[e], bounds[1][e]) : bounds[1][e];
            }
            way = true;
            return;
        }
        for (int[] span : spans.get(event)) {
            if (looks == 20000) {
                throw new Spent();
            }
            looks++;
            chosen.add(span);
            if (bounds(set, chosen) != null) {
                go(set, spans, chosen, tillOne);
            }
            chosen.remove(chosen.size() - 1);
            if (way && tillOne) {
                return;
            }
        }
    }

    int bound(int event, boolean latest) {
        if (event < 0 || event >= events) {
            return -1;
        }
        looks = 0;
        try {
            ask(taken(), -1, -1, false);
        } catch (Spent e) {
            return -2;
        }
        return !way ? -1 : latest ? last[event] : first[event];
    }

    int can(int event, int day) {
        if (event < 0 || event >= events || day < 0 || day > LAST) {
            return -1;
        }
        looks = 0;
        try {
            ask(taken(), event, day, true);
        } catch (Spent e) {
            return -2;
        }
        return way ? 1 : 0;
    }

    int agrees() {
        looks = 0;
        try {
            ask(taken(), -1, -1, true);
        } catch (Spent e) {
            return -2;
        }
        return way ? 1 : 0;
    }

    int quarrel() {
        int all = agrees();
        if (all != 0) {
            return all == 1 ? 0 : -2;
        }
        List<Integer> taken = taken();
        List<List<Integer>> sets = new ArrayList<>();
        for (int bits = 1; bits < 1 << taken.size(); bits++) {
            List<Integer> set = new ArrayList<>();
            for (int k = 0; k < taken.size(); k++) {
                if ((bits >> k & 1) == 1) {
                    set.add(taken.get(k));
                }
            }
            sets.add(set);
        }
        sets.sort(Oracle::inOrder);
        try {
            for (List<Integer> set : sets) {
                ask(set, -1, -1, true);
                if (!way) {
                    int bits = 0;
                    for (int k : set) {
                        bits |= 1 << k;
                    }
                    return bits;
                }
            }
        } catch (Spent e) {
            return -2;
        }
        throw new IllegalStateException("a quarrel of none");
    }

    private static int inOrder(List<Integer> p, List<Integer> q) {
        if (p.size() != q.size()) {
            return Integer.compare(p.size(), q.size());
        }
        for (int k = 0; k < p.size(); k++) {
            if (!p.get(k).equals(q.get(k))) {
                return Integer.compare(p.get(k), q.get(k));
            }
        }
        return 0;
    }

    int slips() {
        looks = 0;
        List<Integer> roots = new ArrayList<>();
        for (int k : taken()) {
            if (!roots.contains(root(k))) {
                roots.add(root(k));
            }
        }
        roots.sort(null);
        int least = Integer.MAX_VALUE;
        List<Integer> sets = new ArrayList<>();
        for (int bits = 0; bits < 1 << roots.size(); bits++) {
            int weight = 0;
            int out = 0;
            for (int k = 0; k < roots.size(); k++) {
                if ((bits >> k & 1) == 1) {
                    weight += sayings.get(roots.get(k)).weight;
                    out |= 1 << roots.get(k);
                }
            }
            if (weight > least) {
                continue;
            }
            List<Integer> left = new ArrayList<>();
            for (int k : taken()) {
                if ((out >> root(k) & 1) == 0) {
                    left.add(k);
                }
            }
            try {
                ask(left, -1, -1, true);
            } catch (Spent e) {
                return -2;
            }
            if (way && weight < least) {
                sets.clear();
                least = weight;
            }
            if (way) {
                sets.add(out);
            }
        }
        slipSets = sets;
        return least;
    }

    int slipped(int k) {
        if (k == -1) {
            return slipSets.size();
        }
        return k < -1 || k >= slipSets.size() ? -1 : slipSets.get(k);
    }

    int width(int event, int day) {
        boolean without = event == -1 && day == -1;
        if (!without && (event < 0 || event >= events || day < 0 || day > LAST)) {
            return -1;
        }
        looks = 0;
        try {
            ask(taken(), event, day, false);
        } catch (Spent e) {
            return -2;
        }
        int sum = 0;
        for (int e = 0; e < events; e++) {
            sum += last[e] - first[e];
        }
        return way ? sum : -1;
    }

    int settles() {
        int all = width(-1, -1);
        if (all < 0) {
            return all;
        }
        int[] firsts = first;
        int[] lasts = last;
        int best = -1;
        int least = Integer.MAX_VALUE;
        for (int e = 0; e < events; e++) {
            if (firsts[e] == lasts[e]) {
                continue;
            }
            int one = width(e, firsts[e]);
            if (one == -2) {
                return -2;
            }
            int two = width(e, lasts[e]);
            if (two == -2) {
                return -2;
            }
            if (Math.max(one, two) < least) {
                least = Math.max(one, two);
                best = e;
            }
        }
        return best;
    }

    int count(int what) {
        return what == 0 ? kings.size() : what == 1 ? events : what == 2 ? sayings.size() : what == 3 ? looks : -1;
    }
}
