/** Promises 1 (a new object) and 5 to 11 (king, event, say, copy, take, look, span). */
public final class SayingTest {
    public static void main(String[] args) {
        newObject();
        kings();
        events();
        spanSayings();
        dateSayings();
        monthSayings();
        yearSayings();
        reignSayings();
        feastSayings();
        behindSayings();
        wrongSayings();
        twelveSayings();
        copies();
        taking();
        looks();
        Check.end();
    }

    private static void newObject() {
        DayBench x = new DayBench();
        for (int what = 0; what < 4; what++) {
            Check.due("new: count(" + what + ")", x.count(what), 0);
        }
        Check.due("new: look(0, 0)", x.look(0, 0), -1);
        Check.due("new: look(0, 6)", x.look(0, 6), -1);
        Check.due("new: span(0, 0)", x.span(0, 0, false), -1);
        Check.due("new: slipped(-1)", x.slipped(-1), 0);
        Check.due("new: slipped(0)", x.slipped(0), -1);
        Check.due("new: take", x.take(0, false), false);
        Check.due("new: copy", x.copy(1, 0), false);
        SayCheck.refuses(x, 0, 0, 0, 0, 0, 1);
        DayBench other = new DayBench();
        other.event();
        other.king(0, 1, 1);
        Check.due("objects are apart: events", x.count(1), 0);
        Check.due("objects are apart: kings", x.count(0), 0);
    }

    private static void kings() {
        DayBench x = new DayBench();
        Check.due("king a above b", x.king(0, 1, 0), -1);
        Check.due("king a below DAYS", x.king(0, -1, 0), -1);
        Check.due("king b beyond DAYS", x.king(0, 0, 986000), -1);
        Check.due("king a, b beyond DAYS", x.king(0, Integer.MAX_VALUE, Integer.MAX_VALUE), -1);
        Check.due("king a, b below DAYS", x.king(0, Integer.MIN_VALUE, Integer.MIN_VALUE), -1);
        Check.due("king of calendar 3", x.king(3, 0, 0), -1);
        Check.due("king of calendar -1", x.king(-1, 0, 0), -1);
        Check.due("no king yet", x.count(0), 0);
        Check.due("king over all DAYS", x.king(2, 0, 985999), 0);
        for (int k = 1; k < 6; k++) {
            Check.due("king " + k, x.king(k % 3, k, k), k);
        }
        Check.due("king 6", x.king(0, 0, 0), -1);
        Check.due("count(0)", x.count(0), 6);
    }

    private static void events() {
        DayBench x = new DayBench();
        for (int k = 0; k < 6; k++) {
            Check.due("event " + k, x.event(), k);
            Check.due("count(1)", x.count(1), k + 1);
        }
        Check.due("event 6", x.event(), -1);
        Check.due("count(1)", x.count(1), 6);
    }

    private static void spanSayings() {
        DayBench x = Setup.withEvents(1);
        SayCheck.says(x, 0, 0, 985999, 77, 0, 985999);
        SayCheck.says(x, 0, 5, 5, Integer.MIN_VALUE, 5, 5);
        SayCheck.refuses(x, 0, 0, 5, 4, 0, 1);
        SayCheck.refuses(x, 0, 0, -1, 4, 0, 1);
        SayCheck.refuses(x, 0, 0, 4, 986000, 0, 1);
        SayCheck.refuses(x, 0, 0, Integer.MIN_VALUE, Integer.MAX_VALUE, 0, 1);
    }

    private static void dateSayings() {
        DayBench x = Setup.withEvents(1);
        SayCheck.says(x, 1, 0, 2000, 229, 730178, 730178);
        SayCheck.says(x, 1, 2, 2, 1305, 729, 729);
        SayCheck.says(x, 1, 1, 1, 103, 0, 0);
        SayCheck.refuses(x, 0, 1, 1, 1, 102, 1);
        SayCheck.refuses(x, 0, 1, 0, 1900, 229, 1);
        SayCheck.refuses(x, 0, 1, 0, 1900, 200, 1);
        SayCheck.refuses(x, 0, 1, 0, 1900, 29, 1);
        SayCheck.refuses(x, 0, 1, 0, 1900, 1301, 1);
        SayCheck.refuses(x, 0, 1, 3, 1900, 101, 1);
        SayCheck.refuses(x, 0, 1, -1, 1900, 101, 1);
        SayCheck.refuses(x, 0, 1, 0, 0, 101, 1);
        SayCheck.refuses(x, 0, 1, 0, 2700, 101, 1);
        SayCheck.refuses(x, 0, 1, 0, 1900, -101, 1);
        SayCheck.refuses(x, 0, 1, 0, 1900, 99, 1);
        SayCheck.refuses(x, 0, 1, 0, 1900, 199, 1);
        SayCheck.refuses(x, 0, 1, 0, 1900, Integer.MIN_VALUE, 1);
        SayCheck.refuses(x, 0, 1, 0, 1900, Integer.MAX_VALUE, 1);
    }

    private static void monthSayings() {
        DayBench x = Setup.withEvents(1);
        SayCheck.says(x, 2, 1, 1, 1, 0, 28);
        SayCheck.says(x, 2, 0, 4, 2, 1126, 1154);
        SayCheck.says(x, 2, 2, 2699, 13, 985130, 985134);
        SayCheck.says(x, 2, 0, 2699, 12, 985758, 985788);
        SayCheck.refuses(x, 0, 2, 0, 5, 13, 1);
        SayCheck.refuses(x, 0, 2, 1, 5, 0, 1);
        SayCheck.refuses(x, 0, 2, 2, 5, 14, 1);
        SayCheck.refuses(x, 0, 2, 3, 5, 1, 1);
        SayCheck.refuses(x, 0, 2, 0, 0, 12, 1);
        SayCheck.refuses(x, 0, 2, 0, 2700, 1, 1);
        SayCheck.refuses(x, 0, 2, 0, 5, Integer.MAX_VALUE, 1);
    }

    private static void yearSayings() {
        DayBench x = Setup.withEvents(1);
        SayCheck.says(x, 3, 1, 1, 99, 0, 362);
        SayCheck.says(x, 3, 0, 1, 0, 0, 364);
        SayCheck.says(x, 3, 0, 4, 0, 1095, 1460);
        SayCheck.says(x, 3, 1, 2699, 0, 985442, 985806);
        SayCheck.says(x, 3, 2, 2699, 0, 984770, 985134);
        SayCheck.refuses(x, 0, 3, 0, 0, 0, 1);
        SayCheck.refuses(x, 0, 3, 0, 2700, 0, 1);
        SayCheck.refuses(x, 0, 3, 0, Integer.MAX_VALUE, 0, 1);
        SayCheck.refuses(x, 0, 3, -1, 5, 0, 1);
        SayCheck.refuses(x, 0, 3, 3, 5, 0, 1);
    }

    private static void reignSayings() {
        DayBench x = Setup.withEvents(1);
        SayCheck.refuses(x, 0, 4, 0, 1, 0, 1);
        x.king(0, Walk.day(0, 2000, 2, 29), Walk.day(0, 2000, 3, 1));
        SayCheck.says(x, 4, 0, 1, 0, 730178, Walk.day(0, 2001, 3, 1) - 1);
        SayCheck.says(x, 4, 0, 2, 0, Walk.day(0, 2001, 3, 1), Walk.day(0, 2002, 3, 1) - 1);
        SayCheck.says(x, 4, 0, 60, 0, Walk.day(0, 2059, 3, 1), Walk.day(0, 2060, 3, 1) - 1);
        SayCheck.refuses(x, 0, 4, 0, 0, 0, 1);
        SayCheck.refuses(x, 0, 4, 0, 61, 0, 1);
        SayCheck.refuses(x, 0, 4, 1, 1, 0, 1);
        SayCheck.refuses(x, 0, 4, -1, 1, 0, 1);
        SayCheck.refuses(x, 0, 4, Integer.MAX_VALUE, 1, 0, 1);
        x.king(2, 0, Walk.day(2, 2690, 1, 1));
        SayCheck.says(x, 4, 1, 9, 0, 8 * 365, Walk.day(2, 2699, 1, 1) - 1);
        SayCheck.refuses(x, 0, 4, 1, 10, 0, 1);
        x.king(0, 985789, 985999);
        SayCheck.refuses(x, 0, 4, 2, 1, 0, 1);
        x.king(1, 0, 0);
        SayCheck.says(x, 4, 3, 1, 0, 0, Walk.day(1, 2, 1, 3) - 1);
    }

    private static void feastSayings() {
        DayBench x = Setup.withEvents(1);
        SayCheck.says(x, 5, 2, 1, 101, 0, 0, 365, 365, 730, 730, 1095, 1095, 1460, 1460,
            1825, 1825, 2190, 2190, 2555, 2555, 2920, 2920, 3285, 3285);
        int leap1896 = Walk.day(0, 1896, 2, 29);
        int leap1904 = Walk.day(0, 1904, 2, 29);
        SayCheck.says(x, 5, 0, 1896, 229, leap1896, leap1896, leap1904, leap1904);
        SayCheck.says(x, 5, 0, 1895, 229, leap1896, leap1896, leap1904, leap1904);
        SayCheck.says(x, 5, 0, 1894, 229, leap1896, leap1896);
        SayCheck.says(x, 5, 0, 2699, 1231, 985788, 985788);
        // Only the years in which there is such a date count; the first of the ten may be none.
        SayCheck.says(x, 5, 2, -8, 101, 0, 0);
        SayCheck.says(x, 5, 1, 0, 101, 364 - 1, 364 - 1, 728, 728, 1093, 1093, 1459, 1459, 1824, 1824,
            2189, 2189, 2554, 2554, 2920, 2920);
        SayCheck.refuses(x, 0, 5, 2, -9, 101, 1);
        SayCheck.refuses(x, 0, 5, 1, -8, 101, 1);
        SayCheck.refuses(x, 0, 5, 0, 2700, 101, 1);
        SayCheck.refuses(x, 0, 5, 0, 5, 230, 1);
        SayCheck.refuses(x, 0, 5, 0, 5, 1301, 1);
        SayCheck.refuses(x, 0, 5, 3, 5, 101, 1);
        SayCheck.refuses(x, 0, 5, 0, 2697, 229, 1);
        SayCheck.refuses(x, 0, 5, 0, Integer.MAX_VALUE, 101, 1);
        SayCheck.refuses(x, 0, 5, 0, Integer.MIN_VALUE, 101, 1);
    }

    private static void behindSayings() {
        DayBench x = Setup.withEvents(2);
        SayCheck.says(x, 6, -40000, 40000, 1);
        SayCheck.says(x, 6, 5, 5, 1);
        SayCheck.refuses(x, 0, 6, 6, 5, 1, 1);
        SayCheck.refuses(x, 0, 6, -40001, 0, 1, 1);
        SayCheck.refuses(x, 0, 6, 0, 40001, 1, 1);
        SayCheck.refuses(x, 0, 6, Integer.MIN_VALUE, Integer.MAX_VALUE, 1, 1);
        SayCheck.refuses(x, 0, 6, 0, 1, 0, 1);
        SayCheck.refuses(x, 0, 6, 0, 1, 2, 1);
        SayCheck.refuses(x, 0, 6, 0, 1, -1, 1);
        Check.due("span of a BEHIND", x.span(0, 0, false), -1);
    }

    private static void wrongSayings() {
        DayBench x = Setup.withEvents(1);
        SayCheck.refuses(x, -1, 0, 0, 1, 0, 1);
        SayCheck.refuses(x, 1, 0, 0, 1, 0, 1);
        SayCheck.refuses(x, 0, -1, 0, 1, 0, 1);
        SayCheck.refuses(x, 0, 7, 0, 1, 0, 1);
        SayCheck.refuses(x, 0, 0, 0, 1, 0, 0);
        SayCheck.refuses(x, 0, 0, 0, 1, 0, 101);
        SayCheck.refuses(x, 0, 0, 0, 1, 0, Integer.MIN_VALUE);
        Check.due("weight 100", x.say(0, 0, 0, 1, 0, 100), 0);
        Check.due("weight 1", x.say(0, 0, 0, 1, 0, 1), 1);
    }

    private static void twelveSayings() {
        DayBench x = Setup.withEvents(2);
        for (int k = 0; k < 12; k++) {
            Check.due("saying " + k, x.say(k % 2, 0, k, k + 9, 0, k + 1), k);
        }
        SayCheck.refuses(x, 0, 0, 0, 1, 0, 1);
        SayCheck.refuses(x, 0, 6, 0, 1, 1, 1);
        for (int k = 0; k < 12; k++) {
            Check.due("event of " + k, x.look(k, 0), k % 2);
            Check.due("weight of " + k, x.look(k, 2), k + 1);
            Check.due("from of " + k, x.span(k, 0, false), k);
        }
        x.take(3, false);
        SayCheck.refuses(x, 0, 0, 0, 1, 0, 1);
    }

    private static void copies() {
        DayBench x = Setup.withEvents(2);
        for (int k = 0; k < 5; k++) {
            x.say(k % 2, 0, 0, 9, 0, 5);
        }
        Check.due("copy(0, 0)", x.copy(0, 0), false);
        Check.due("copy(0, 1)", x.copy(0, 1), false);
        Check.due("copy(5, 0)", x.copy(5, 0), false);
        Check.due("copy(-1, 0)", x.copy(-1, 0), false);
        Check.due("copy(1, -1)", x.copy(1, -1), false);
        Check.due("copy(4, 2)", x.copy(4, 2), true);
        Check.due("copy(4, 2) again", x.copy(4, 2), false);
        Check.due("copy(4, 1) again", x.copy(4, 1), false);
        Check.due("root of 4", x.look(4, 5), 2);
        Check.due("copy(2, 1)", x.copy(2, 1), true);
        Check.due("copy(1, 0)", x.copy(1, 0), true);
        Check.due("copy of 4", x.look(4, 4), 2);
        Check.due("copy of 2", x.look(2, 4), 1);
        Check.due("copy of 0", x.look(0, 4), -1);
        Check.due("root of 4, then", x.look(4, 5), 0);
        Check.due("root of 1", x.look(1, 5), 0);
        Check.due("root of 0", x.look(0, 5), 0);
        Check.due("root of 3", x.look(3, 5), 3);
    }

    private static void taking() {
        DayBench x = Setup.withEvents(1);
        x.say(0, 0, 0, 9, 0, 5);
        Check.due("TAKEN at first", x.look(0, 3), 1);
        Check.due("take true at first", x.take(0, true), false);
        Check.due("take false", x.take(0, false), true);
        Check.due("not TAKEN", x.look(0, 3), 0);
        Check.due("take false again", x.take(0, false), false);
        Check.due("last of all DAYS", x.last(0), 985999);
        Check.due("take true", x.take(0, true), true);
        Check.due("TAKEN", x.look(0, 3), 1);
        Check.due("last", x.last(0), 9);
        Check.due("take(1)", x.take(1, true), false);
        Check.due("take(1), off", x.take(1, false), false);
        Check.due("take(-1)", x.take(-1, false), false);
    }

    private static void looks() {
        DayBench x = Setup.withEvents(3);
        x.say(2, 0, 3, 9, 0, 42);
        int[] want = {2, 0, 42, 1, -1, 0, 1};
        for (int what = 0; what < want.length; what++) {
            Check.due("look(0, " + what + ")", x.look(0, what), want[what]);
            Check.due("look(1, " + what + ")", x.look(1, what), -1);
            Check.due("look(-1, " + what + ")", x.look(-1, what), -1);
        }
        Check.due("look(0, 7)", x.look(0, 7), -1);
        Check.due("look(0, -1)", x.look(0, -1), -1);
        Check.due("span(1, 0)", x.span(1, 0, false), -1);
        Check.due("span(-1, 0)", x.span(-1, 0, true), -1);
    }
}
