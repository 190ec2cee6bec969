import java.util.Random;

/** All promises: arguments from all over int in any state throw nothing, and refused calls change nothing. */
public final class WrongInputTest {
    private static final int[] ODD = {Integer.MIN_VALUE, Integer.MIN_VALUE + 1, -986000, -40001, -40000, -101, -3, -2, -1,
        0, 1, 2, 3, 4, 5, 6, 7, 11, 12, 13, 60, 61, 100, 101, 102, 103, 229, 301, 1301, 1305, 2690, 2699, 2700, 40000,
        40001, 985134, 985788, 985806, 985998, 985999, 986000, Integer.MAX_VALUE - 9, Integer.MAX_VALUE};

    public static void main(String[] args) {
        for (int seed = 0; seed < 400; seed++) {
            anyCalls(new Random(seed * 0x9E3779B97F4A7C15L));
        }
        refusedCallsChangeNothing();
        Check.end();
    }

    private static int odd(Random random) {
        return ODD[random.nextInt(ODD.length)];
    }

    /** Goes on behind the 512th call too: what is answered then is free, but nothing may be thrown. */
    private static void anyCalls(Random random) {
        DayBench x = new DayBench();
        for (int k = random.nextInt(7); k > 0; k--) {
            x.event();
            x.king(random.nextInt(3), 0, odd(random));
        }
        for (int k = 0; k < 700; k++) {
            int a = odd(random);
            int b = odd(random);
            int c = odd(random);
            int answer = call(x, random.nextInt(21), a, b, c, odd(random), random);
            Check.due("an answer is no less than -2: " + answer, answer >= -2, true);
        }
    }

    private static int call(DayBench x, int which, int a, int b, int c, int d, Random random) {
        switch (which) {
            case 0: return x.day(a, b, c, d);
            case 1: return x.date(a, b, c);
            case 2: return x.years(a, b, c);
            case 3: return x.king(a, b, c);
            case 4: return x.event();
            case 5: return x.say(random.nextInt(7), random.nextInt(8), a, b, c, 1 + random.nextInt(100));
            case 6: return x.say(a, b, c, d, odd(random), odd(random));
            case 7: return x.copy(a, b) ? 1 : 0;
            case 8: return x.take(a, random.nextBoolean()) ? 1 : 0;
            case 9: return x.look(a, b);
            case 10: return x.span(a, b, random.nextBoolean());
            case 11: return x.first(a);
            case 12: return x.last(a);
            case 13: return x.can(a, b);
            case 14: return x.agrees();
            case 15: return x.quarrel();
            case 16: return x.slips();
            case 17: return x.slipped(a);
            case 18: return x.width(a, b);
            case 19: return x.settles();
            default: return x.count(a);
        }
    }

    private static void refusedCallsChangeNothing() {
        DayBench x = new DayBench();
        x.event();
        x.event();
        x.say(0, 5, 2, 1, 101, 4);
        x.say(1, 6, 10, 20, 0, 3);
        x.say(1, 0, 0, 1000, 0, 2);
        x.copy(2, 0);
        x.slips();
        String before = state(x);
        x.king(0, 5, 4);
        x.king(3, 4, 5);
        x.say(0, 0, 5, 4, 0, 1);
        x.say(0, 6, 5, 4, 1, 1);
        x.say(0, 4, 0, 1, 0, 1);
        x.say(2, 0, 4, 5, 0, 1);
        x.say(0, 5, 2, 1, 1306, 1);
        x.copy(2, 1);
        x.copy(0, 1);
        x.take(3, true);
        x.take(0, true);
        x.first(2);
        x.can(2, 5);
        x.width(2, 5);
        Check.due("state after refused calls", state(x).equals(before), true);
        // The place of a refused saying is used by the next one, without what was left in it.
        Check.due("the next saying", x.say(0, 6, 0, 1, 1, 1), 3);
        Check.due("has no SPANS", x.look(3, 6), 0);
        Check.due("and is no COPY", x.look(3, 4), -1);
    }

    private static String state(DayBench x) {
        StringBuilder all = new StringBuilder();
        for (int what = 0; what < 4; what++) {
            all.append(x.count(what)).append(' ');
        }
        for (int k = 0; k < 4; k++) {
            for (int what = 0; what < 7; what++) {
                all.append(x.look(k, what)).append(' ');
            }
            all.append(x.slipped(k - 1)).append(' ').append(x.span(k, 0, true)).append(' ');
        }
        return all.toString();
    }
}
