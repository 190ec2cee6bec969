/** Checks of say: what it answers, and what the saying then has. */
final class SayCheck {
    private SayCheck() { }

    /** What say answers, and the SPANS that the saying then has, as from, to, from, to .. */
    static void says(DayBench x, int what, int a, int b, int c, int... spans) {
        String call = "say(0, " + what + ", " + a + ", " + b + ", " + c + ", 7)";
        int made = x.count(2);
        int got = x.say(0, what, a, b, c, 7);
        Check.due(call, got, made);
        Check.due(call + ": count(2)", x.count(2), made + 1);
        Check.due(call + ": look 1", x.look(got, 1), what);
        Check.due(call + ": look 6", x.look(got, 6), spans.length / 2);
        for (int k = 0; k < spans.length / 2; k++) {
            Check.due(call + ": span " + k + " first", x.span(got, k, false), spans[2 * k]);
            Check.due(call + ": span " + k + " last", x.span(got, k, true), spans[2 * k + 1]);
        }
        Check.due(call + ": span beyond", x.span(got, spans.length / 2, false), -1);
        Check.due(call + ": span beyond, last", x.span(got, spans.length / 2, true), -1);
        Check.due(call + ": span -1", x.span(got, -1, false), -1);
        Check.due(call + ": span far", x.span(got, Integer.MAX_VALUE, true), -1);
    }

    static void refuses(DayBench x, int event, int what, int a, int b, int c, int weight) {
        String call = "say(" + event + ", " + what + ", " + a + ", " + b + ", " + c + ", " + weight + ")";
        int made = x.count(2);
        Check.due(call, x.say(event, what, a, b, c, weight), -1);
        Check.due(call + ": count(2)", x.count(2), made);
    }
}
