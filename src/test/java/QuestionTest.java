/** Promises 12 to 21 (first, last, can, agrees, quarrel, slips, slipped, width, settles, count). */
public final class QuestionTest {
    public static void main(String[] args) {
        withoutEvents();
        withoutSayings();
        chainOfBehinds();
        behindsThatCircle();
        finds();
        looksAreCounted();
        looksMindTheEndsOfDays();
        looksStopAtOne();
        wrongCallsAskNothing();
        exactlyTwentyThousand();
        spentEverywhere();
        quarrelOrder();
        quarrelOfBehinds();
        slipsAndCopies();
        slipsOfRootNotTaken();
        slippedStaysWhenSpent();
        settlesPicksLeast();
        counts();
        Check.end();
    }

    private static void withoutEvents() {
        DayBench x = new DayBench();
        Check.due("agrees", x.agrees(), 1);
        Check.due("quarrel", x.quarrel(), 0);
        Check.due("slips", x.slips(), 0);
        Check.due("slipped(-1)", x.slipped(-1), 1);
        Check.due("slipped(0)", x.slipped(0), 0);
        Check.due("width", x.width(-1, -1), 0);
        Check.due("settles", x.settles(), -1);
        Check.due("first", x.first(0), -1);
        Check.due("last", x.last(-1), -1);
        Check.due("can", x.can(0, 0), -1);
        Check.due("count(3)", x.count(3), 0);
    }

    private static void withoutSayings() {
        DayBench x = Setup.withEvents(6);
        Check.due("first", x.first(5), 0);
        Check.due("last", x.last(5), 985999);
        Check.due("first(6)", x.first(6), -1);
        Check.due("last(6)", x.last(6), -1);
        Check.due("first(-1)", x.first(-1), -1);
        Check.due("width", x.width(-1, -1), 6 * 985999);
        Check.due("width with a find", x.width(3, 77), 5 * 985999);
        Check.due("settles", x.settles(), 0);
        Check.due("can first DAY", x.can(2, 0), 1);
        Check.due("can last DAY", x.can(2, 985999), 1);
        Check.due("can below", x.can(2, -1), -1);
        Check.due("can beyond", x.can(2, 986000), -1);
        Check.due("count(3)", x.count(3), 6);
    }

    private static void chainOfBehinds() {
        DayBench x = Setup.withEvents(6);
        for (int e = 1; e < 6; e++) {
            x.say(e, 6, 40000, 40000, e - 1, 1);
        }
        Check.due("first(0)", x.first(0), 0);
        Check.due("last(0)", x.last(0), 785999);
        Check.due("first(5)", x.first(5), 200000);
        Check.due("last(5)", x.last(5), 985999);
        Check.due("count(3)", x.count(3), 6);
        x.say(5, 0, 250000, 250010, 0, 1);
        Check.due("first(0) then", x.first(0), 50000);
        Check.due("last(0) then", x.last(0), 50010);
        Check.due("can(2, 130005)", x.can(2, 130005), 1);
        Check.due("can(2, 130011)", x.can(2, 130011), 0);
    }

    private static void behindsThatCircle() {
        DayBench x = Setup.withEvents(3);
        x.say(1, 6, 1, 5, 0, 1);
        x.say(2, 6, 1, 5, 1, 1);
        x.say(0, 6, -1, 5, 2, 1);
        Check.due("agrees", x.agrees(), 0);
        Check.due("count(3): event 0 looks once", x.count(3), 1);
        Check.due("quarrel", x.quarrel(), 7);
        Check.due("first", x.first(1), -1);
        Check.due("last", x.last(1), -1);
        Check.due("can", x.can(1, 5), 0);
        Check.due("width", x.width(-1, -1), -1);
        Check.due("width with a find", x.width(1, 5), -1);
        Check.due("settles", x.settles(), -1);
        x.take(2, false);
        x.say(0, 6, -2, 5, 2, 1);
        Check.due("agrees then", x.agrees(), 1);
        Check.due("last(0)", x.last(0), 985997);
        Check.due("first(2)", x.first(2), 2);
        Check.due("width then", x.width(-1, -1), 3 * 985997);
    }

    private static void finds() {
        DayBench x = Setup.withEvents(2);
        x.say(0, 0, 100, 200, 0, 5);
        x.say(1, 0, 150, 160, 0, 3);
        x.say(1, 6, 10, 20, 0, 2);
        Check.due("width", x.width(-1, -1), 30);
        Check.due("width(0, 130)", x.width(0, 130), 0);
        Check.due("width(0, 140)", x.width(0, 140), 10);
        Check.due("width(0, 151)", x.width(0, 151), -1);
        Check.due("width(0, 99)", x.width(0, 99), -1);
        Check.due("width(-1, 140)", x.width(-1, 140), -1);
        Check.due("width(2, 140)", x.width(2, 140), -1);
        Check.due("width(-2, -1)", x.width(-2, -1), -1);
        Check.due("width(-1, -2)", x.width(-1, -2), -1);
        Check.due("width(0, -1)", x.width(0, -1), -1);
        Check.due("width(0, 986000)", x.width(0, 986000), -1);
        Check.due("a FIND does not stay", x.width(-1, -1), 30);
        Check.due("sayings", x.count(2), 3);
    }

    private static void looksAreCounted() {
        DayBench x = Setup.withEvents(3);
        Setup.feast(x, 0, 10);
        Setup.feast(x, 1, 10);
        x.say(1, 6, 0, 0, 0, 1);
        Check.due("first(2)", x.first(2), 0);
        Check.due("10 + 10 * 10 + 10 * 1 LOOKS", x.count(3), 120);
        // An EVENT without SPANS has no LOOKS; those ahead have theirs.
        x.say(2, 0, 5, 5, 0, 1);
        x.say(2, 0, 6, 6, 0, 1);
        Check.due("first(2) then", x.first(2), -1);
        Check.due("10 + 10 * 10 LOOKS", x.count(3), 110);
        x.say(0, 0, 5, 5, 0, 1);
        Check.due("agrees", x.agrees(), 0);
        Check.due("no LOOKS", x.count(3), 0);
    }

    /** A SPAN that leaves another EVENT no place in DAYS is left at its own LOOK. */
    private static void looksMindTheEndsOfDays() {
        DayBench x = Setup.withEvents(2);
        x.say(0, 6, 10, 20, 1, 1);
        x.say(0, 0, 0, 9, 0, 1);
        Check.due("agrees at the first DAYS", x.agrees(), 0);
        Check.due("count(3)", x.count(3), 1);
        x.take(1, false);
        Check.due("first(0)", x.first(0), 10);
        Check.due("last(1)", x.last(1), 985989);
        x = Setup.withEvents(2);
        x.say(0, 6, -20, -10, 1, 1);
        x.say(0, 0, 985990, 985999, 0, 1);
        Check.due("agrees at the last DAYS", x.agrees(), 0);
        Check.due("count(3)", x.count(3), 1);
        x.take(1, false);
        Check.due("last(0)", x.last(0), 985989);
        Check.due("first(1)", x.first(1), 10);
    }

    private static void looksStopAtOne() {
        DayBench x = Setup.withEvents(2);
        Setup.feast(x, 0, 10);
        Setup.feast(x, 1, 10);
        x.say(0, 6, 365 * 7, 365 * 7, 1, 1);
        Check.due("agrees", x.agrees(), 1);
        Check.due("seven in vain of ten each, one, one", x.count(3), 7 * 11 + 2);
        Check.due("quarrel", x.quarrel(), 0);
        Check.due("quarrel's LOOKS", x.count(3), 7 * 11 + 2);
        Check.due("slips", x.slips(), 0);
        Check.due("slips' LOOKS", x.count(3), 7 * 11 + 2);
        Check.due("last(0)", x.last(0), 2698 * 365);
        Check.due("all LOOKS", x.count(3), 110);
        Check.due("can", x.can(0, 2698 * 365), 1);
        Check.due("can: one of EVENT 0, three of EVENT 1", x.count(3), 1 + 3);
        Check.due("can't", x.can(0, 2698 * 365 - 1), 0);
        Check.due("can't: no SPAN", x.count(3), 0);
        Check.due("width", x.width(1, 2691 * 365), 0);
        Check.due("width: ten, one each", x.count(3), 20);
    }

    private static void wrongCallsAskNothing() {
        DayBench x = Setup.withEvents(2);
        Check.due("agrees", x.agrees(), 1);
        x.first(2);
        x.last(-1);
        x.can(2, 0);
        x.can(0, -1);
        x.width(0, -1);
        x.width(2, 0);
        x.slipped(0);
        Check.due("count(3) is that of the latest question", x.count(3), 2);
    }

    private static void exactlyTwentyThousand() {
        DayBench x = Setup.feasts(2, 9, 10, 10, 10);
        Check.due("first", x.first(0), 2697 * 365);
        Check.due("count(3)", x.count(3), 20000);
        Check.due("width", x.width(-1, -1), (1 + 8 + 9 + 9 + 9) * 365);
        x = Setup.feasts(3, 6, 10, 10, 10);
        Check.due("first", x.first(0), -2);
        Check.due("the LOOKS made", x.count(3), 20000);
    }

    private static void spentEverywhere() {
        DayBench x = Setup.feasts(10, 10, 10, 10, 10, 1);
        Check.due("agrees", x.agrees(), 1);
        Check.due("count(3)", x.count(3), 6);
        Check.due("first", x.first(5), -2);
        Check.due("last", x.last(0), -2);
        Check.due("width", x.width(-1, -1), -2);
        Check.due("settles", x.settles(), -2);
        Check.due("width with a FIND", x.width(0, 2690 * 365), -2);
        x = Setup.feasts(10, 10, 10, 10, 10);
        Check.due("width", x.width(-1, -1), -2);
        Check.due("width with a FIND", x.width(0, 2690 * 365), 9 * 365 * 4);
        Check.due("width's LOOKS", x.count(3), 1 + 10 + 100 + 1000 + 10000);
        x = Setup.feasts(10, 10, 10, 10, 10, 1);
        x.say(5, 6, 0, 0, 0, 9);
        x.say(5, 6, 365, 365, 0, 8);
        Check.due("BEHINDs that quarrel are seen at once", x.agrees(), 0);
        Check.due("count(3)", x.count(3), 10);
        x.take(7, false);
        x.say(5, 0, 5, 5, 0, 3);
        Check.due("agrees", x.agrees(), -2);
        Check.due("quarrel", x.quarrel(), -2);
        Check.due("slips", x.slips(), -2);
        Check.due("can", x.can(1, 2690 * 365), 0);
        Check.due("can", x.can(5, 5), -2);
        Check.due("no such EVENT", x.first(6), -1);
    }

    private static void quarrelOrder() {
        DayBench x = Setup.withEvents(2);
        x.say(0, 0, 0, 10, 0, 1);
        x.say(1, 0, 0, 10, 0, 1);
        x.say(1, 0, 20, 30, 0, 1);
        x.say(0, 0, 20, 30, 0, 1);
        // {0, 3} comes ahead of {1, 2}, though 6 is less than 9.
        Check.due("quarrel", x.quarrel(), 9);
        // all: EVENT 0 has no SPAN; four alone: two each; {0, 1}, {0, 2}: two each; {0, 3}: none.
        Check.due("count(3)", x.count(3), 4 * 2 + 2 * 2);
        x.take(0, false);
        Check.due("quarrel of those TAKEN", x.quarrel(), 6);
        x.take(1, false);
        Check.due("no quarrel", x.quarrel(), 0);
    }

    private static void quarrelOfBehinds() {
        DayBench x = Setup.withEvents(2);
        x.say(1, 6, 10, 20, 0, 1);
        x.say(0, 0, 100, 100, 0, 1);
        x.say(1, 0, 121, 130, 0, 1);
        Check.due("quarrel of three", x.quarrel(), 7);
        x.say(0, 6, 0, 0, 1, 1);
        Check.due("a lesser one", x.quarrel(), 9);
    }

    private static void slipsAndCopies() {
        DayBench x = Setup.withEvents(1);
        x.say(0, 0, 0, 10, 0, 5);
        x.say(0, 0, 20, 30, 0, 3);
        x.say(0, 0, 40, 50, 0, 2);
        Check.due("slips", x.slips(), 5);
        Check.due("slipped(-1)", x.slipped(-1), 1);
        Check.due("slipped(0)", x.slipped(0), 6);
        Check.due("slipped(1)", x.slipped(1), -1);
        x.say(0, 0, 45, 60, 0, 3);
        Check.due("slips: 40 .. 50 and 45 .. 60 stay, or 0 .. 10", x.slips(), 8);
        Check.due("slipped(-1)", x.slipped(-1), 2);
        Check.due("slipped(0)", x.slipped(0), 3);
        Check.due("slipped(1)", x.slipped(1), 14);
        x.copy(3, 2);
        Check.due("slips, a copy counted once", x.slips(), 5);
        Check.due("slipped(-1)", x.slipped(-1), 1);
        Check.due("slipped(0): the ROOTS alone", x.slipped(0), 6);
        x.copy(2, 1);
        // Without the GROUP of 0 the others still quarrel among themselves.
        Check.due("slips of two GROUPS", x.slips(), 3);
        Check.due("slipped(-1)", x.slipped(-1), 1);
        Check.due("slipped(0)", x.slipped(0), 2);
        Check.due("slipped(-2)", x.slipped(-2), -1);
        Check.due("slipped(MIN)", x.slipped(Integer.MIN_VALUE), -1);
        Check.due("slipped(MAX)", x.slipped(Integer.MAX_VALUE), -1);
    }

    private static void slipsOfRootNotTaken() {
        DayBench x = Setup.withEvents(1);
        x.say(0, 0, 0, 10, 0, 50);
        x.say(0, 0, 20, 30, 0, 7);
        x.say(0, 0, 40, 50, 0, 1);
        x.copy(2, 0);
        x.take(0, false);
        Check.due("the copy weighs what its ROOT does", x.slips(), 7);
        Check.due("slipped(0)", x.slipped(0), 2);
        x.take(1, false);
        x.say(0, 0, 60, 60, 0, 50);
        Check.due("of like weight", x.slips(), 50);
        Check.due("slipped(-1)", x.slipped(-1), 2);
        Check.due("slipped(0): the ROOT, TAKEN or not", x.slipped(0), 1);
        Check.due("slipped(1): the GROUP of 1 is not asked about", x.slipped(1), 8);
    }

    private static void slippedStaysWhenSpent() {
        DayBench x = Setup.withEvents(6);
        x.say(5, 0, 5, 5, 0, 3);
        x.say(5, 0, 6, 6, 0, 3);
        Check.due("slips", x.slips(), 3);
        for (int e = 0; e < 5; e++) {
            Setup.feast(x, e, 10);
        }
        Check.due("slips, spent", x.slips(), -2);
        Check.due("slipped(-1)", x.slipped(-1), 2);
        Check.due("slipped(0)", x.slipped(0), 1);
        Check.due("slipped(1)", x.slipped(1), 2);
    }

    private static void settlesPicksLeast() {
        DayBench x = Setup.withEvents(3);
        x.say(0, 0, 100, 120, 0, 1);
        x.say(1, 0, 100, 150, 0, 1);
        x.say(2, 0, 100, 100, 0, 1);
        Check.due("the wider one", x.settles(), 1);
        Check.due("count(3)", x.count(3), 3);
        x.take(1, false);
        x.say(1, 0, 100, 120, 0, 1);
        Check.due("of several the first", x.settles(), 0);
        x.say(0, 0, 110, 110, 0, 1);
        Check.due("only one is open", x.settles(), 1);
        x.say(1, 0, 111, 111, 0, 1);
        Check.due("none is open", x.settles(), -1);
        // The greater WIDTH of the two counts: EVENT 0 on its FIRST leaves EVENT 1 wide.
        x = Setup.withEvents(2);
        x.say(0, 5, 2, 1, 101, 1);
        x.say(0, 0, 0, 365, 0, 1);
        x.say(1, 0, 0, 1000, 0, 1);
        x.say(1, 6, 0, 600, 0, 1);
        Check.due("width on 0", x.width(0, 0), 600);
        Check.due("width on 365", x.width(0, 365), 600);
        Check.due("width on 0 of the other", x.width(1, 0), 0);
        Check.due("width on 965 of the other", x.width(1, 965), 0);
        Check.due("settles", x.settles(), 1);
        Check.due("LOOKS of its latest WIDTH", x.count(3), 4);
    }

    private static void counts() {
        DayBench x = Setup.withEvents(2);
        x.king(0, 0, 0);
        x.say(0, 0, 0, 0, 0, 1);
        x.say(0, 0, 0, 0, 0, 1);
        x.say(0, 0, 0, 0, 0, 1);
        Check.due("count(0)", x.count(0), 1);
        Check.due("count(1)", x.count(1), 2);
        Check.due("count(2)", x.count(2), 3);
        Check.due("count(3)", x.count(3), 0);
        Check.due("count(4)", x.count(4), -1);
        Check.due("count(-1)", x.count(-1), -1);
        x.agrees();
        Check.due("count(3)", x.count(3), 2);
        Check.due("NONE", DayBench.NONE, -1);
    }
}
