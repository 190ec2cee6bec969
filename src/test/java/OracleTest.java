import java.util.Random;

/** All promises: seeded runs of calls, each answer against the slow model; small WAYS against all DAYS. */
public final class OracleTest {
    private static final int RUNS = 1500;
    private static final int FEAST_RUNS = 300;
    private static final int SMALL_RUNS = 600;

    private final Random random;
    private final DayBench bench = new DayBench();
    private final Oracle oracle = new Oracle();
    private final StringBuilder story = new StringBuilder();
    private final int base;
    private final int reach;
    private final boolean feasts;
    private final int mostSayings;

    private OracleTest(long seed) {
        random = spread(seed);
        int[] bases = {0, 0, 730000, 985000};
        base = bases[random.nextInt(bases.length)];
        int[] reaches = {15, 400, 4000, 100000};
        reach = reaches[random.nextInt(reaches.length)];
        feasts = random.nextInt(3) == 0;
        mostSayings = random.nextInt(3) == 0 ? 13 : 2 + random.nextInt(6);
        story.append("seed ").append(seed).append(": ");
    }

    public static void main(String[] args) {
        for (int seed = 0; seed < RUNS; seed++) {
            new OracleTest(seed).run();
        }
        for (int seed = 0; seed < FEAST_RUNS; seed++) {
            new OracleTest(seed).runOfFeasts();
        }
        for (int seed = 0; seed < SMALL_RUNS; seed++) {
            smallWays(spread(seed));
        }
        Check.end();
    }

    /** Random's first numbers hardly differ between small seeds, so they are spread. */
    private static Random spread(long seed) {
        return new Random(seed * 0x9E3779B97F4A7C15L);
    }

    private int pick(int from, int to) {
        return from + random.nextInt(to - from + 1);
    }

    private int someDay() {
        return pick(0, 40) == 0 ? pick(-2, 986001) : Math.min(base + pick(0, reach), 986000);
    }

    private int year() {
        return pick(0, 30) == 0 ? pick(-12, 2702) : Math.max(1, base / 365 + pick(-2, 3));
    }

    private void due(String call, long got, long want) {
        story.append(call).append("; ");
        Check.due(got == want ? call : story.toString(), got, want);
    }

    private void run() {
        int events = feasts ? pick(3, 6) : pick(1, 6);
        for (int k = 0; k < events; k++) {
            due("event()", bench.event(), oracle.event());
        }
        for (int k = pick(0, 3); k > 0; k--) {
            king();
        }
        int calls = pick(20, 90);
        for (int k = 0; k < calls; k++) {
            if (oracle.count(2) < mostSayings && pick(0, 99) < 45 - k / 3) {
                say();
            } else {
                other();
            }
        }
    }

    /** A FEAST of each EVENT and BEHINDs of some years: many LOOKS, often more than there may be. */
    private void runOfFeasts() {
        int events = pick(2, 6);
        for (int e = 0; e < events; e++) {
            due("event()", bench.event(), oracle.event());
        }
        for (int e = 0; e < events; e++) {
            int calendar = pick(0, 2);
            int spans = pick(3, 10);
            int date = pick(0, 4) == 0 ? 229 : pick(1, 12) * 100 + pick(1, 28);
            due("say(" + e + ", 5, " + calendar + ", " + (2700 - spans) + ", " + date + ", 1)",
                bench.say(e, 5, calendar, 2700 - spans, date, 1), oracle.say(e, 5, calendar, 2700 - spans, date, 1));
        }
        for (int k = pick(0, 4); k > 0; k--) {
            int e = pick(0, events - 1);
            int c = pick(0, events - 1);
            int a = 365 * pick(-4, 3) + pick(-200, 200);
            int b = a + pick(1, 1000);
            due("say(" + e + ", 6, " + a + ", " + b + ", " + c + ", 2)",
                bench.say(e, 6, a, b, c, 2), oracle.say(e, 6, a, b, c, 2));
        }
        for (int k = 0; k < 12; k++) {
            other();
        }
    }

    private void king() {
        int calendar = pick(0, 12) == 0 ? pick(-1, 3) : pick(0, 2);
        int a = someDay();
        int b = a + pick(-1, 50);
        due("king(" + calendar + ", " + a + ", " + b + ")", bench.king(calendar, a, b), oracle.king(calendar, a, b));
    }

    private void say() {
        int event = pick(0, 20) == 0 ? pick(-1, 6) : pick(0, Math.max(0, oracle.count(1) - 1));
        int what = feasts && pick(0, 2) > 0 ? 5 : pick(0, 30) == 0 ? pick(-1, 7) : pick(0, 6);
        int a = pick(0, 12) == 0 ? pick(-1, 3) : pick(0, 2);
        int b = year();
        int c = pick(0, 4) == 0 ? 229 : pick(1, 13) * 100 + pick(0, 31);
        if (what == 0) {
            a = someDay();
            b = a + pick(-1, 3) * pick(0, reach);
        } else if (what == 2) {
            c = pick(0, 14);
        } else if (what == 4) {
            b = pick(0, 4) == 0 ? pick(0, 61) : pick(1, 3);
        } else if (what == 5) {
            c = pick(0, 5) == 0 ? 229 : pick(0, 1) == 0 ? 101 : 301;
            b = pick(0, 3) == 0 ? b : Math.max(1, base / 365);
        } else if (what == 6) {
            int wide = pick(0, 30) == 0 ? 40001 : Math.min(40000, reach);
            a = pick(-wide, wide);
            b = a + pick(-1, 3) * pick(0, wide);
            c = pick(0, 20) == 0 ? pick(-1, 6) : pick(0, Math.max(0, oracle.count(1) - 1));
        }
        int weight = pick(0, 40) == 0 ? pick(0, 1) * 101 : pick(1, pick(0, 1) == 0 ? 3 : 100);
        due("say(" + event + ", " + what + ", " + a + ", " + b + ", " + c + ", " + weight + ")",
            bench.say(event, what, a, b, c, weight), oracle.say(event, what, a, b, c, weight));
        int made = oracle.count(2) - 1;
        for (int k = -1; k < 11; k++) {
            Check.due(story + "span(" + made + ", " + k + ")", bench.span(made, k, false), oracle.span(made, k, false));
            Check.due(story + "span(" + made + ", " + k + ")", bench.span(made, k, true), oracle.span(made, k, true));
        }
    }

    private void other() {
        int event = pick(-1, 6);
        if (pick(0, 9) > 0) {
            event = pick(0, Math.max(0, oracle.count(1) - 1));
        }
        int saying = pick(-1, 12);
        int day = someDay();
        switch (pick(0, 14)) {
            case 0:
                due("first(" + event + ")", bench.first(event), oracle.bound(event, false));
                break;
            case 1:
                due("last(" + event + ")", bench.last(event), oracle.bound(event, true));
                break;
            case 2:
                due("can(" + event + ", " + day + ")", bench.can(event, day), oracle.can(event, day));
                break;
            case 3:
                due("agrees()", bench.agrees(), oracle.agrees());
                break;
            case 4:
                due("quarrel()", bench.quarrel(), oracle.quarrel());
                break;
            case 5:
            case 6:
                due("slips()", bench.slips(), oracle.slips());
                break;
            case 7:
                day = pick(0, 3) == 0 ? -1 : day;
                event = pick(0, 2) == 0 ? -1 : event;
                due("width(" + event + ", " + day + ")", bench.width(event, day), oracle.width(event, day));
                break;
            case 8:
                due("settles()", bench.settles(), oracle.settles());
                break;
            case 9:
            case 10:
                int of = pick(-1, 11);
                due("copy(" + saying + ", " + of + ")", bench.copy(saying, of) ? 1 : 0, oracle.copy(saying, of) ? 1 : 0);
                break;
            case 11:
            case 12:
                boolean on = pick(0, 2) > 0;
                due("take(" + saying + ", " + on + ")", bench.take(saying, on) ? 1 : 0, oracle.take(saying, on) ? 1 : 0);
                break;
            case 13:
                int what = pick(-1, 7);
                due("look(" + saying + ", " + what + ")", bench.look(saying, what), oracle.look(saying, what));
                break;
            default:
                due("event()", bench.event(), oracle.event());
                break;
        }
        for (int what = -1; what < 5; what++) {
            Check.due(story + "count(" + what + ")", bench.count(what), oracle.count(what));
        }
        for (int k = -2; k <= oracle.slipped(-1); k++) {
            Check.due(story + "slipped(" + k + ")", bench.slipped(k), oracle.slipped(k));
        }
    }

    /** Three EVENTS within 12 DAYS: FIRST, LAST and can by trying each choice of DAYS. */
    private static void smallWays(Random random) {
        DayBench x = new DayBench();
        int n = 12;
        boolean[][] may = new boolean[3][n];
        for (int e = 0; e < 3; e++) {
            x.event();
        }
        int[][] behinds = new int[1 + random.nextInt(5)][];
        StringBuilder story = new StringBuilder();
        for (int e = 0; e < 3; e++) {
            int from = random.nextInt(n);
            int to = from + random.nextInt(n - from);
            x.say(e, 0, from, to, 0, 1);
            story.append(e).append(" in ").append(from).append("..").append(to).append("; ");
            for (int d = from; d <= to; d++) {
                may[e][d] = true;
            }
        }
        for (int k = 0; k < behinds.length; k++) {
            int e = random.nextInt(3);
            int c = (e + 1 + random.nextInt(2)) % 3;
            int a = random.nextInt(13) - 6;
            int b = a + random.nextInt(7);
            behinds[k] = new int[] {e, c, a, b};
            x.say(e, 6, a, b, c, 1);
            story.append(e).append(" behind ").append(c).append(" by ").append(a).append("..").append(b).append("; ");
        }
        boolean[][] can = new boolean[3][n];
        for (int choice = 0; choice < n * n * n; choice++) {
            int[] days = {choice % n, choice / n % n, choice / n / n};
            boolean met = true;
            for (int e = 0; e < 3; e++) {
                met &= may[e][days[e]];
            }
            for (int[] s : behinds) {
                int behind = days[s[0]] - days[s[1]];
                met &= behind >= s[2] && behind <= s[3];
            }
            for (int e = 0; e < 3 && met; e++) {
                can[e][days[e]] = true;
            }
        }
        int width = 0;
        for (int e = 0; e < 3; e++) {
            int first = -1;
            int last = -1;
            for (int d = 0; d < n; d++) {
                Check.due(story + "can(" + e + ", " + d + ")", x.can(e, d), can[e][d] ? 1 : 0);
                first = first < 0 && can[e][d] ? d : first;
                last = can[e][d] ? d : last;
            }
            Check.due(story + "first(" + e + ")", x.first(e), first);
            Check.due(story + "last(" + e + ")", x.last(e), last);
            width = first < 0 ? -1 : width + last - first;
        }
        Check.due(story + "agrees()", x.agrees(), width < 0 ? 0 : 1);
        Check.due(story + "width", x.width(-1, -1), width);
    }
}
