/**
 * Promises 16 to 18, 20 and 21 (quarrel, slips, slipped, settles, count) by section 3 of the terms: each boundary
 * that it names, on it and one step to each side. A test's comment tells the words.
 */
public final class SetBoundaryTest {
    private static final int NONE = -1;
    private static final int LAST_DAY = 985999;
    private static final int MIN = Integer.MIN_VALUE;
    private static final int MAX = Integer.MAX_VALUE;

    public static void main(String[] args) {
        agreesIsAskedFirst();
        fewestSayings();
        firstByNumbers();
        setsAskedTillOneQuarrels();
        quarrelOfSeven();
        quarrelOfThoseTaken();
        quarrelKnowsNoCopies();
        lightestSlip();
        weightsOfSlips();
        slipsOfEveryGroupButOne();
        manySetsTold();
        orderOfSets();
        groupsOfCopies();
        rootThatIsNotTaken();
        groupWithoutATakenOne();
        weightOfACopyIsNotLookedAt();
        slippedNumbers();
        eventsThatAreOpen();
        leastOfTheGreater();
        ofSeveralTheFirst();
        settlesWithoutAWay();
        latestWidthOfSettles();
        whatIsCounted();
        latestQuestion();
        Check.end();
    }

    private static void span(DayBench x, int event, int a, int b, int weight) {
        x.say(event, 0, a, b, 0, weight);
    }

    private static void told(DayBench x, int... sets) {
        Check.due("slipped(-1)", x.slipped(-1), sets.length);
        for (int k = 0; k < sets.length; k++) {
            Check.due("slipped(" + k + ")", x.slipped(k), sets[k]);
        }
        Check.due("slipped beyond", x.slipped(sets.length), NONE);
    }

    /** "0 if it AGREES (asked first)". */
    private static void agreesIsAskedFirst() {
        DayBench x = Setup.withEvents(3);
        for (int k = 0; k < 12; k++) {
            span(x, k % 3, 0, 10, 1);
        }
        Check.due("quarrel of twelve that agree", x.quarrel(), 0);
        Check.due("LOOKS: no set is asked", x.count(3), 3);
        x.take(11, false);
        Check.due("quarrel", x.quarrel(), 0);
        x = Setup.withEvents(1);
        span(x, 0, 0, 10, 1);
        Check.due("quarrel of one", x.quarrel(), 0);
        span(x, 0, 10, 20, 1);
        Check.due("quarrel of two with a DAY in common", x.quarrel(), 0);
        span(x, 0, 11, 20, 1);
        Check.due("quarrel of those without", x.quarrel(), 5);
    }

    /** "by how many they are": two of greater numbers are ahead of three of lesser ones. */
    private static void fewestSayings() {
        DayBench x = Setup.withEvents(3);
        span(x, 0, 100, 100, 1);
        x.say(1, 6, 10, 10, 0, 1);
        span(x, 1, 111, 120, 1);
        Check.due("quarrel of three", x.quarrel(), 7);
        span(x, 2, 5, 5, 1);
        span(x, 2, 6, 6, 1);
        Check.due("quarrel of two", x.quarrel(), 24);
        x.take(4, false);
        Check.due("quarrel of three again", x.quarrel(), 7);
    }

    /** "of like many the first by their numbers, rising". */
    private static void firstByNumbers() {
        DayBench x = Setup.withEvents(3);
        int[][] pairs = {{0, 5}, {1, 4}, {2, 3}};
        for (int k = 0; k < 6; k++) {
            span(x, k < 3 ? k : 5 - k, k, k, 1);
        }
        for (int[] pair : pairs) {
            Check.due("quarrel from " + pair[0] + " on", x.quarrel(), 1 << pair[0] | 1 << pair[1]);
            Check.due("take", x.take(pair[0], false), true);
        }
        Check.due("no quarrel", x.quarrel(), 0);
        // Of three: {0, 1, 3} is ahead of {0, 2, 3}, and {0, 1, 4} too.
        x = Setup.withEvents(2);
        span(x, 0, 0, 0, 1);
        x.say(1, 6, 10, 10, 0, 1);
        x.say(1, 6, 10, 11, 0, 1);
        span(x, 1, 12, 12, 1);
        Check.due("quarrel {0, 1, 3}", x.quarrel(), 11);
        x.take(1, false);
        Check.due("quarrel {0, 2, 3}", x.quarrel(), 13);
        x.take(1, true);
        x.take(3, false);
        span(x, 1, 13, 13, 1);
        Check.due("quarrel {0, 1, 4}", x.quarrel(), 19);
    }

    /** "each set asked till one is found"; "all LOOKS count". */
    private static void setsAskedTillOneQuarrels() {
        for (int other = 1; other <= 4; other++) {
            DayBench x = Setup.withEvents(2);
            for (int k = 0; k < 5; k++) {
                span(x, k == 0 || k == other ? 1 : 0, k, k == 0 || k == other ? k : 50, 1);
            }
            Check.due("quarrel", x.quarrel(), 1 | 1 << other);
            // EVENT 1 has no SPAN in the whole set and in the pair: one LOOK each. Others have two.
            Check.due("LOOKS", x.count(3), 1 + 5 * 2 + (other - 1) * 2 + 1);
        }
    }

    /** A chain of BEHINDs between two SPANS, missed by one DAY: all seven are needed. */
    private static DayBench chain(int freeAhead, int end) {
        DayBench x = Setup.withEvents(6);
        for (int k = 0; k < freeAhead; k++) {
            span(x, 0, 0, LAST_DAY, 1);
        }
        span(x, 0, 100, 100, 1);
        for (int e = 1; e < 6; e++) {
            x.say(e, 6, 10, 10, e - 1, 1);
        }
        span(x, 5, end, end, 1);
        for (int k = freeAhead; k < 5; k++) {
            span(x, 0, 0, LAST_DAY, 1);
        }
        return x;
    }

    private static void quarrelOfSeven() {
        for (int end : new int[] {149, 151}) {
            DayBench x = chain(0, end);
            Check.due("quarrel of the first seven", x.quarrel(), 0x7F);
            // All; each set of 1 to 6 of twelve; the first set of 7: six LOOKS each.
            int fewer = 12 + 66 + 220 + 495 + 792 + 924;
            Check.due("LOOKS", x.count(3), 6 * (1 + fewer + 1));
            x = chain(5, end);
            Check.due("quarrel of the last seven", x.quarrel(), 0xFE0);
            Check.due("LOOKS", x.count(3), 6 * (1 + fewer + 792));
            Check.due("slips", x.slips(), 1);
            told(x, 1 << 5, 1 << 6, 1 << 7, 1 << 8, 1 << 9, 1 << 10, 1 << 11);
            // None; 31 sets of the free ones; seven of one.
            Check.due("LOOKS of slips", x.count(3), 6 * (1 + 31 + 7));
        }
        Check.due("no quarrel of seven that meet", chain(5, 150).quarrel(), 0);
    }

    /** "of sayings TAKEN". */
    private static void quarrelOfThoseTaken() {
        DayBench x = Setup.withEvents(1);
        for (int k = 0; k < 4; k++) {
            span(x, 0, 10 * k, 10 * k + 5, 1);
        }
        Check.due("quarrel of four", x.quarrel(), 3);
        x.take(0, false);
        Check.due("quarrel of three", x.quarrel(), 6);
        x.take(2, false);
        Check.due("quarrel of two", x.quarrel(), 10);
        x.take(1, false);
        Check.due("quarrel of one", x.quarrel(), 0);
        x.take(3, false);
        Check.due("quarrel of none", x.quarrel(), 0);
        x.take(0, true);
        x.take(3, true);
        Check.due("quarrel of the outer ones", x.quarrel(), 9);
    }

    /** A COPY is a saying by itself in a quarrel: only SLIPS go by GROUPS. */
    private static void quarrelKnowsNoCopies() {
        DayBench x = Setup.withEvents(1);
        span(x, 0, 0, 5, 1);
        span(x, 0, 10, 15, 1);
        Check.due("copy", x.copy(1, 0), true);
        Check.due("quarrel of a COPY and its ROOT", x.quarrel(), 3);
        Check.due("slips: the GROUP as a whole", x.slips(), 1);
        told(x, 1);
    }

    /** "those that are heavier than a lightest one yet are not [asked]; all of the least are told". */
    private static void lightestSlip() {
        int[][] cases = {{5, 6, 5, 1}, {5, 5, 5, 2}, {5, 4, 4, 2}, {1, 1, 1, 2}, {1, 2, 1, 1}, {100, 99, 99, 2}, {100, 100, 100, 2}};
        for (int[] c : cases) {
            DayBench x = Setup.withEvents(1);
            span(x, 0, 0, 5, c[0]);
            span(x, 0, 10, 15, c[1]);
            Check.due("slips of " + c[0] + " and " + c[1], x.slips(), c[2]);
            Check.due("LOOKS: one in each set that is asked with one left", x.count(3), c[3]);
            if (c[0] == c[1]) {
                told(x, 1, 2);
            } else {
                told(x, c[0] < c[1] ? 1 : 2);
            }
        }
        // A set of two as light as one, lighter by one, heavier by one.
        for (int third = 4; third <= 6; third++) {
            DayBench x = Setup.withEvents(1);
            span(x, 0, 0, 5, 2);
            span(x, 0, 3, 8, 3);
            span(x, 0, 10, 15, third);
            Check.due("slips", x.slips(), Math.min(third, 5));
            if (third == 5) {
                told(x, 3, 4);
            } else {
                told(x, third < 5 ? 4 : 3);
            }
        }
    }

    /** The lightest and the heaviest WEIGHTS that there can be. */
    private static void weightsOfSlips() {
        for (int weight : new int[] {1, 2, 99, 100}) {
            DayBench x = Setup.withEvents(1);
            for (int k = 0; k < 12; k++) {
                span(x, 0, k, k, weight);
            }
            Check.due("slips", x.slips(), 11 * weight);
            Check.due("LOOKS", x.count(3), 12);
        }
    }

    private static void slipsOfEveryGroupButOne() {
        DayBench x = Setup.withEvents(1);
        int[] sets = new int[12];
        for (int k = 0; k < 12; k++) {
            span(x, 0, k, k, 100);
            sets[11 - k] = 0xFFF & ~(1 << k);
        }
        Check.due("slips", x.slips(), 1100);
        told(x, sets);
    }

    /** Four EVENTS with three sayings each that can't be together: one of each stays, 81 sets. */
    private static void manySetsTold() {
        DayBench x = Setup.withEvents(4);
        for (int k = 0; k < 12; k++) {
            span(x, k % 4, k, k, 9);
        }
        int[] sets = new int[81];
        int size = 0;
        for (int set = 0; set < 4096; set++) {
            boolean is = true;
            for (int e = 0; e < 4; e++) {
                is &= Integer.bitCount(set >> e & 0x111) == 2;
            }
            if (is) {
                sets[size++] = set;
            }
        }
        Check.due("sets reckoned", size, 81);
        Check.due("slips", x.slips(), 8 * 9);
        told(x, sets);
    }

    /** "in order of their numbers (bit k: the GROUP whose ROOT is the k-th of these, rising)". */
    private static void orderOfSets() {
        DayBench x = Setup.withEvents(1);
        for (int k = 0; k < 6; k++) {
            span(x, 0, 10 * k, 10 * k + 5, 7);
        }
        x.take(1, false);
        x.take(4, false);
        x.take(5, false);
        Check.due("slips of 0, 2, 3", x.slips(), 14);
        told(x, 5, 9, 12);
        x.copy(3, 1);
        Check.due("slips of the GROUPS 0, 1, 2", x.slips(), 14);
        told(x, 3, 5, 6);
    }

    /** "A GROUP: a ROOT and all that come from it", also through another COPY, of whatever EVENT. */
    private static void groupsOfCopies() {
        DayBench x = Setup.withEvents(3);
        span(x, 0, 0, 5, 9);
        span(x, 0, 10, 15, 8);
        span(x, 1, 0, 5, 7);
        span(x, 1, 10, 15, 8);
        span(x, 2, 0, 5, 6);
        span(x, 2, 10, 15, 8);
        Check.due("slips, each by itself", x.slips(), 8 + 7 + 6);
        told(x, 2 | 4 | 16);
        x.copy(3, 1);
        Check.due("slips, 1 and 3 in one", x.slips(), 8 + 6);
        told(x, 2 | 16);
        x.copy(5, 3);
        Check.due("slips, 1, 3 and 5 in one", x.slips(), 8);
        told(x, 2);
        x.copy(1, 0);
        Check.due("slips, 0, 1, 3 and 5 in one", x.slips(), 9);
        told(x, 1);
        x.copy(2, 0);
        x.copy(4, 2);
        Check.due("slips of the one GROUP", x.slips(), 9);
        told(x, 1);
    }

    /** "GROUPS with a saying TAKEN": its ROOT need not be; "its WEIGHT is that of the ROOT". */
    private static void rootThatIsNotTaken() {
        for (int weight = 19; weight <= 21; weight++) {
            DayBench x = Setup.withEvents(1);
            span(x, 0, 50, 55, weight);
            span(x, 0, 0, 5, 1);
            span(x, 0, 10, 15, 20);
            x.copy(1, 0);
            x.take(0, false);
            Check.due("slips", x.slips(), Math.min(weight, 20));
            if (weight == 20) {
                told(x, 1, 4);
            } else {
                told(x, weight < 20 ? 1 : 4);
            }
        }
    }

    private static void groupWithoutATakenOne() {
        DayBench x = Setup.withEvents(1);
        span(x, 0, 0, 5, 1);
        span(x, 0, 0, 5, 1);
        span(x, 0, 10, 15, 3);
        span(x, 0, 20, 25, 3);
        x.copy(1, 0);
        Check.due("slips of three GROUPS", x.slips(), 4);
        told(x, 5, 9);
        x.take(0, false);
        Check.due("slips, a COPY is TAKEN yet", x.slips(), 4);
        told(x, 5, 9);
        x.take(1, false);
        Check.due("slips of two GROUPS", x.slips(), 3);
        told(x, 4, 8);
        x.take(3, false);
        Check.due("slips of one GROUP", x.slips(), 0);
        told(x, 0);
        // Such a GROUP is in no set that is asked: EVENT 0 has one LOOK in each.
        x = Setup.withEvents(2);
        span(x, 0, 0, 5, 1);
        span(x, 1, 10, 15, 3);
        span(x, 1, 20, 25, 3);
        Check.due("slips of three GROUPS", x.slips(), 3);
        Check.due("LOOKS of {}, {0}, {1}, {2}", x.count(3), 1 + 1 + 2 + 2);
        x.take(0, false);
        Check.due("slips of two GROUPS", x.slips(), 3);
        Check.due("LOOKS of {}, {1}, {2}", x.count(3), 1 + 2 + 2);
    }

    private static void weightOfACopyIsNotLookedAt() {
        for (int weight : new int[] {1, 5, 100}) {
            DayBench x = Setup.withEvents(1);
            span(x, 0, 0, 5, 5);
            span(x, 0, 0, 5, weight);
            span(x, 0, 10, 15, 6);
            x.copy(1, 0);
            Check.due("slips", x.slips(), 5);
            told(x, 1);
        }
    }

    /** "NONE for k below -1, or if there is none such; -1 asks how many (0 ahead of any)". */
    private static void slippedNumbers() {
        DayBench x = Setup.withEvents(1);
        for (int k = 0; k < 3; k++) {
            span(x, 0, 10 * k, 10 * k, 1);
        }
        Check.due("slipped(-1) ahead of any", x.slipped(-1), 0);
        for (int k : new int[] {MIN, -2, 0, 1, MAX}) {
            Check.due("slipped(" + k + ") ahead of any", x.slipped(k), NONE);
        }
        Check.due("slips", x.slips(), 2);
        for (int k : new int[] {MIN, -3, -2, 3, 4, MAX}) {
            Check.due("slipped(" + k + ")", x.slipped(k), NONE);
        }
        told(x, 3, 5, 6);
        // They are those of the latest slips(), whatever has come since.
        x.take(0, false);
        span(x, 0, 5, 5, 1);
        Check.due("quarrel", x.quarrel(), 6);
        told(x, 3, 5, 6);
        Check.due("slips", x.slips(), 2);
        told(x, 6, 10, 12);
        x.take(1, false);
        x.take(2, false);
        Check.due("slips", x.slips(), 0);
        told(x, 0);
    }

    /** "of EVENTS whose FIRST is not LAST". */
    private static void eventsThatAreOpen() {
        for (int open = 0; open < 8; open++) {
            DayBench x = Setup.withEvents(3);
            int first = NONE;
            for (int e = 2; e >= 0; e--) {
                boolean is = (open >> e & 1) != 0;
                span(x, e, 5, is ? 6 : 5, 1);
                first = is ? e : first;
            }
            Check.due("settles, open are " + open, x.settles(), first);
            Check.due("LOOKS", x.count(3), 3);
            Check.due("width", x.width(NONE, NONE), Integer.bitCount(open));
        }
        // One that the others alone keep to one DAY is not open.
        DayBench x = Setup.withEvents(2);
        x.say(0, 6, 0, 10, 1, 1);
        span(x, 1, 5, 9, 1);
        span(x, 0, 0, 5, 1);
        Check.due("settles", x.settles(), NONE);
        Check.due("width", x.width(NONE, NONE), 0);
    }

    /** "the greater WIDTH of two FINDS, on its FIRST and on its LAST, is least". */
    private static void leastOfTheGreater() {
        DayBench x = Setup.withEvents(3);
        span(x, 0, 20, 40, 1);
        span(x, 1, 60, 90, 1);
        span(x, 2, 60, 90, 1);
        x.say(0, 6, -40, -20, 1, 1);
        Check.due("width", x.width(NONE, NONE), 20 + 20 + 30);
        Check.due("EVENT 0 on its FIRST", x.width(0, 20), 30);
        Check.due("EVENT 0 on its LAST", x.width(0, 40), 50);
        Check.due("EVENT 1 on its FIRST", x.width(1, 60), 50);
        Check.due("EVENT 1 on its LAST", x.width(1, 80), 30);
        Check.due("EVENT 2 on its FIRST", x.width(2, 60), 40);
        Check.due("EVENT 2 on its LAST", x.width(2, 90), 40);
        Check.due("settles", x.settles(), 2);
    }

    /** "of several the first". */
    private static void ofSeveralTheFirst() {
        DayBench x = Setup.withEvents(3);
        span(x, 0, 90, 100, 1);
        span(x, 1, 40, 60, 1);
        span(x, 2, 80, 110, 1);
        x.say(1, 6, -30, 10, 2, 1);
        Check.due("EVENT 0 on its FIRST", x.width(0, 90), 20);
        Check.due("EVENT 0 on its LAST", x.width(0, 100), 20);
        Check.due("EVENT 1 on its FIRST", x.width(1, 50), 10);
        Check.due("EVENT 1 on its LAST", x.width(1, 60), 20);
        Check.due("EVENT 2 on its FIRST", x.width(2, 80), 20);
        Check.due("EVENT 2 on its LAST", x.width(2, 90), 10);
        Check.due("settles", x.settles(), 0);
        for (int wider = -1; wider <= 1; wider++) {
            x = Setup.withEvents(3);
            span(x, 0, 7, 7, 1);
            span(x, 1, 0, 10, 1);
            span(x, 2, 0, 10 + wider, 1);
            Check.due("settles, the last wider by " + wider, x.settles(), wider > 0 ? 2 : 1);
        }
    }

    /** "NONE: there is none, or no WAY". */
    private static void settlesWithoutAWay() {
        DayBench x = Setup.withEvents(2);
        span(x, 0, 0, 5, 1);
        span(x, 0, 5, 9, 1);
        Check.due("settles", x.settles(), 1);
        span(x, 0, 6, 9, 1);
        Check.due("settles without a WAY", x.settles(), NONE);
        Check.due("width without a WAY", x.width(NONE, NONE), NONE);
        Check.due("width of the other without a WAY", x.width(1, 5), NONE);
        x.take(2, false);
        span(x, 1, 8, 8, 1);
        Check.due("settles without an open one", x.settles(), NONE);
        Check.due("width then", x.width(NONE, NONE), 0);
    }

    /** "3 LOOKS of the latest question of 3. (of the latest WIDTH of settles() ..)". */
    private static void latestWidthOfSettles() {
        DayBench x = Setup.feasts(4, 3, 2);
        Check.due("settles", x.settles(), 0);
        Check.due("LOOKS with a FIND of EVENT 2", x.count(3), 4 + 12 + 12);
        span(x, 2, Setup.LAST_FEAST, Setup.LAST_FEAST, 1);
        Check.due("settles", x.settles(), 0);
        Check.due("LOOKS with a FIND of EVENT 1", x.count(3), 4 + 4 + 4);
        span(x, 1, Setup.LAST_FEAST, Setup.LAST_FEAST, 1);
        Check.due("settles", x.settles(), 0);
        Check.due("LOOKS with a FIND of EVENT 0", x.count(3), 3);
        span(x, 0, Setup.LAST_FEAST, Setup.LAST_FEAST, 1);
        Check.due("settles", x.settles(), NONE);
        Check.due("LOOKS without a FIND", x.count(3), 3);
        span(x, 1, 5, 5, 1);
        Check.due("settles without a WAY", x.settles(), NONE);
        Check.due("LOOKS", x.count(3), 1);
    }

    /** "NONE for another what". */
    private static void whatIsCounted() {
        DayBench x = Setup.withEvents(2);
        for (int k = 0; k < 3; k++) {
            x.king(0, k, k);
        }
        for (int k = 0; k < 4; k++) {
            span(x, 0, k, k + 4, 1);
        }
        Check.due("first", x.first(0), 3);
        int[] want = {3, 2, 4, 2};
        for (int what = 0; what < 4; what++) {
            Check.due("count(" + what + ")", x.count(what), want[what]);
        }
        for (int what : new int[] {MIN, -2, -1, 4, 5, MAX}) {
            Check.due("count(" + what + ")", x.count(what), NONE);
        }
    }

    /** "LOOKS of the latest question of 3. (.. 0 ahead of any)": other calls, and refused ones, ask none. */
    private static void latestQuestion() {
        DayBench x = Setup.withEvents(2);
        x.king(0, 0, 0);
        span(x, 0, 0, 5, 1);
        x.copy(0, 0);
        x.look(0, 3);
        Check.due("ahead of any", x.count(3), 0);
        Check.due("can", x.can(0, 6), 0);
        Check.due("a question may have none", x.count(3), 0);
        Check.due("agrees", x.agrees(), 1);
        Check.due("LOOKS", x.count(3), 2);
        x.event();
        span(x, 1, 9, 9, 1);
        span(x, 1, 8, 8, 1);
        x.take(0, false);
        x.copy(1, 0);
        x.king(0, 1, 1);
        x.day(0, 1, 1, 1);
        x.date(0, 1, 1);
        x.years(0, 1, 1);
        x.span(0, 0, true);
        x.slipped(-1);
        x.first(3);
        x.last(-1);
        x.can(0, -1);
        x.can(3, 0);
        x.width(NONE, 0);
        x.width(3, 0);
        Check.due("LOOKS are still those", x.count(3), 2);
        Check.due("agrees not", x.agrees(), 0);
        Check.due("LOOKS", x.count(3), 1);
        Check.due("quarrel", x.quarrel(), 6);
        Check.due("LOOKS", x.count(3), 1 + 3 + 3 + 1);
    }
}
