/** Benches that several tests begin with. */
final class Setup {
    /** The first DAY of the EVEN calendar's last year. */
    static final int LAST_FEAST = 2698 * 365;

    private Setup() { }

    static DayBench withEvents(int n) {
        DayBench x = new DayBench();
        for (int k = 0; k < n; k++) {
            x.event();
        }
        return x;
    }

    /** A FEAST in the last n years of the EVEN calendar has n SPANS, the last of them LAST_FEAST. */
    static void feast(DayBench x, int event, int n) {
        x.say(event, 5, 2, 2700 - n, 101, 1);
    }

    /** EVENT k has a FEAST with the k-th of these numbers of SPANS: LOOKS can be reckoned by hand. */
    static DayBench feasts(int... spans) {
        DayBench x = withEvents(spans.length);
        for (int e = 0; e < spans.length; e++) {
            feast(x, e, spans[e]);
        }
        return x;
    }

    /** All LOOKS of such feasts, if none of them is left. */
    static int looksOf(int... spans) {
        int looks = 0;
        for (int e = spans.length - 1; e >= 0; e--) {
            looks = spans[e] * (1 + looks);
        }
        return looks;
    }
}
