/**
 * A chronologer's bench. The document (DOC.md) says what each call answers; the words
 * that it writes in capitals (DAY, SPAN, SAYING, LOOK and so on) mean the same here.
 */
public final class DayBench {
    public static final int NONE = -1;

    private static final int SPENT = -2;
    private static final int LAST_DAY = 985999;
    private static final int MAX_KINGS = 6;
    private static final int MAX_EVENTS = 6;
    private static final int MAX_SAYINGS = 12;
    private static final int MAX_WEIGHT = 100;
    private static final int MAX_YEARS_BEHIND = 100;
    private static final int MAX_REIGN = 60;
    private static final int MAX_DAYS_BEHIND = 40000;
    private static final int FEAST_YEARS = 10;
    private static final int MAX_LOOKS = 20000;

    private static final int SPAN = 0;
    private static final int DATE = 1;
    private static final int MONTH = 2;
    private static final int YEAR = 3;
    private static final int REIGN = 4;
    private static final int FEAST = 5;
    private static final int BEHIND = 6;

    private final int[] kingCalendar;
    private final int[] kingFrom;
    private final int[] kingTo;
    private int kings;
    private int events;
    private final Saying[] sayings;
    private int sayingsMade;
    private final Search search;
    private final SlipSets slipSets;
    private final int[] heldFirst;
    private final int[] heldLast;

    public DayBench() {
        kingCalendar = new int[MAX_KINGS];
        kingFrom = new int[MAX_KINGS];
        kingTo = new int[MAX_KINGS];
        sayings = new Saying[MAX_SAYINGS];
        for (int k = 0; k < MAX_SAYINGS; k++) {
            sayings[k] = new Saying();
        }
        search = new Search();
        slipSets = new SlipSets();
        heldFirst = new int[MAX_EVENTS];
        heldLast = new int[MAX_EVENTS];
    }

    public int day(int calendar, int year, int month, int day) {
        return Calendars.dayOf(calendar, year, month, day);
    }

    public int date(int calendar, int day, int what) {
        return Calendars.partOf(calendar, day, what);
    }

    public int years(int calendar, int day, int n) {
        return Calendars.yearsBehind(calendar, day, n);
    }

    public int king(int calendar, int a, int b) {
        if (kings >= MAX_KINGS || !Calendars.isCalendar(calendar) || !isRowOfDays(a, b)) {
            return NONE;
        }
        kingCalendar[kings] = calendar;
        kingFrom[kings] = a;
        kingTo[kings] = b;
        kings++;
        return kings - 1;
    }

    public int event() {
        if (events >= MAX_EVENTS) {
            return NONE;
        }
        events++;
        return events - 1;
    }

    public int say(int event, int what, int a, int b, int c, int weight) {
        if (sayingsMade >= MAX_SAYINGS || !isEvent(event) || weight < 1 || weight > MAX_WEIGHT) {
            return NONE;
        }
        Saying next = sayings[sayingsMade];
        next.spans.clear();
        if (what == BEHIND) {
            if (!isBehind(event, a, b, c)) {
                return NONE;
            }
            next.setBehind(a, b, c);
        } else {
            fillSpans(next.spans, what, a, b, c);
            if (next.spans.size == 0) {
                return NONE;
            }
        }
        next.begin(event, what, weight);
        sayingsMade++;
        return sayingsMade - 1;
    }

    public boolean copy(int saying, int of) {
        if (!isSaying(saying) || !isSaying(of) || of >= saying || sayings[saying].copyOf != NONE) {
            return false;
        }
        sayings[saying].copyOf = of;
        return true;
    }

    public boolean take(int saying, boolean on) {
        if (!isSaying(saying) || sayings[saying].taken == on) {
            return false;
        }
        sayings[saying].taken = on;
        return true;
    }

    public int look(int saying, int what) {
        if (!isSaying(saying)) {
            return NONE;
        }
        Saying s = sayings[saying];
        switch (what) {
            case 0:
                return s.event;
            case 1:
                return s.what;
            case 2:
                return s.weight;
            case 3:
                return s.taken ? 1 : 0;
            case 4:
                return s.copyOf;
            case 5:
                return rootOf(saying);
            case 6:
                return s.spans.size;
            default:
                return NONE;
        }
    }

    public int span(int saying, int k, boolean last) {
        if (!isSaying(saying) || !sayings[saying].spans.has(k)) {
            return NONE;
        }
        Spans spans = sayings[saying].spans;
        return last ? spans.to[k] : spans.from[k];
    }

    public int first(int event) {
        int answer = askAllWays(event);
        return answer == 1 ? search.earliest[event] : answer;
    }

    public int last(int event) {
        int answer = askAllWays(event);
        return answer == 1 ? search.latest[event] : answer;
    }

    public int can(int event, int day) {
        if (!isEvent(event) || !isDay(day)) {
            return NONE;
        }
        search.begin(events);
        search.lay(sayings, takenSet());
        search.find(event, day);
        return search.run(true);
    }

    public int agrees() {
        search.begin(events);
        return askSet(takenSet());
    }

    public int quarrel() {
        int taken = takenSet();
        search.begin(events);
        int answer = askSet(taken);
        if (answer != 0) {
            return answer == 1 ? 0 : SPENT;
        }
        for (int size = 1; size <= sayingsMade; size++) {
            int found = quarrelWith(0, size, 0, taken);
            if (found != 0) {
                return found;
            }
        }
        return 0;
    }

    public int slips() {
        int taken = takenSet();
        search.begin(events);
        gatherGroups(taken);
        int sets = 1 << slipSets.groups;
        for (int set = 0; set < sets; set++) {
            int weight = slipSets.weightOf(set);
            if (!slipSets.tooHeavy(weight)) {
                int answer = askSet(taken & ~slipSets.sayingsOf(set));
                if (answer == SPENT) {
                    return SPENT;
                }
                if (answer == 1) {
                    slipSets.note(weight, slipSets.rootsOf(set));
                }
            }
        }
        slipSets.tell();
        return slipSets.least;
    }

    public int slipped(int k) {
        if (k == -1) {
            return slipSets.told;
        }
        return k >= 0 && k < slipSets.told ? slipSets.toldSets[k] : NONE;
    }

    public int width(int event, int day) {
        boolean without = event == NONE && day == NONE;
        if (!without && (!isEvent(event) || !isDay(day))) {
            return NONE;
        }
        return askWidth(event, day);
    }

    public int settles() {
        int all = askWidth(NONE, NONE);
        if (all < 0) {
            return all;
        }
        System.arraycopy(search.earliest, 0, heldFirst, 0, MAX_EVENTS);
        System.arraycopy(search.latest, 0, heldLast, 0, MAX_EVENTS);
        int best = NONE;
        int least = 0;
        for (int e = 0; e < events; e++) {
            if (heldFirst[e] != heldLast[e]) {
                int greater = greaterWidth(e);
                if (greater == SPENT) {
                    return SPENT;
                }
                if (best == NONE || greater < least) {
                    best = e;
                    least = greater;
                }
            }
        }
        return best;
    }

    public int count(int what) {
        switch (what) {
            case 0:
                return kings;
            case 1:
                return events;
            case 2:
                return sayingsMade;
            case 3:
                return search.looks;
            default:
                return NONE;
        }
    }

    private static boolean isDay(int day) {
        return day >= 0 && day <= LAST_DAY;
    }

    private static boolean isRowOfDays(int a, int b) {
        return isDay(a) && isDay(b) && a <= b;
    }

    private boolean isEvent(int event) {
        return event >= 0 && event < events;
    }

    private boolean isSaying(int saying) {
        return saying >= 0 && saying < sayingsMade;
    }

    private boolean isBehind(int event, int a, int b, int c) {
        return isEvent(c) && c != event && a <= b && a >= -MAX_DAYS_BEHIND && b <= MAX_DAYS_BEHIND;
    }

    /** Leaves the spans empty if there can't be such a saying. */
    private void fillSpans(Spans spans, int what, int a, int b, int c) {
        switch (what) {
            case SPAN:
                if (isRowOfDays(a, b)) {
                    spans.add(a, b);
                }
                break;
            case DATE:
                addDate(spans, a, b, c);
                break;
            case MONTH:
                if (Calendars.isMonth(a, b, c)) {
                    int start = Calendars.monthStart(a, b, c);
                    spans.add(start, start + Calendars.monthDays(a, b, c) - 1);
                }
                break;
            case YEAR:
                if (Calendars.isYear(a, b)) {
                    spans.add(Calendars.yearStart(a, b), Calendars.yearStart(a, b + 1) - 1);
                }
                break;
            case REIGN:
                addReign(spans, a, b);
                break;
            case FEAST:
                for (int k = 0; k < FEAST_YEARS; k++) {
                    addDate(spans, a, b + k, c);
                }
                break;
            default:
                break;
        }
    }

    private static void addDate(Spans spans, int calendar, int year, int monthAndDay) {
        int day = Calendars.dayOf(calendar, year, monthAndDay / 100, monthAndDay % 100);
        if (day != NONE) {
            spans.add(day, day);
        }
    }

    private void addReign(Spans spans, int king, int n) {
        if (king < 0 || king >= kings || n < 1 || n > MAX_REIGN) {
            return;
        }
        int start = Calendars.yearsBehind(kingCalendar[king], kingFrom[king], n - 1);
        int end = Calendars.yearsBehind(kingCalendar[king], kingTo[king], n);
        if (start != NONE && end != NONE) {
            spans.add(start, end - 1);
        }
    }

    /** A copy's original has a lesser number, so the chain ends within MAX_SAYINGS steps. */
    private int rootOf(int saying) {
        int root = saying;
        for (int step = 0; step < MAX_SAYINGS && sayings[root].copyOf != NONE; step++) {
            root = sayings[root].copyOf;
        }
        return root;
    }

    private int takenSet() {
        int set = 0;
        for (int k = 0; k < sayingsMade; k++) {
            if (sayings[k].taken) {
                set |= 1 << k;
            }
        }
        return set;
    }

    /** 1, 0 or SPENT: whether a set of sayings alone has a WAY; its LOOKS count on. */
    private int askSet(int set) {
        search.lay(sayings, set);
        return search.run(true);
    }

    /** 1 if FIRST and LAST stand in the search, else what the call has to answer. */
    private int askAllWays(int event) {
        if (!isEvent(event)) {
            return NONE;
        }
        search.begin(events);
        search.lay(sayings, takenSet());
        int answer = search.run(false);
        return answer == 0 ? NONE : answer;
    }

    /** WIDTH with a FIND, or without one if the event is NONE. */
    private int askWidth(int event, int day) {
        search.begin(events);
        search.lay(sayings, takenSet());
        if (event != NONE) {
            search.find(event, day);
        }
        int answer = search.run(false);
        if (answer != 1) {
            return answer == 0 ? NONE : SPENT;
        }
        int sum = 0;
        for (int e = 0; e < events; e++) {
            sum += search.latest[e] - search.earliest[e];
        }
        return sum;
    }

    private int greaterWidth(int event) {
        int onFirst = askWidth(event, heldFirst[event]);
        if (onFirst == SPENT) {
            return SPENT;
        }
        int onLast = askWidth(event, heldLast[event]);
        return onLast == SPENT ? SPENT : Math.max(onFirst, onLast);
    }

    /**
     * The first set without a WAY that has the given sayings and so many more of those
     * TAKEN, numbered from the given one on; SPENT, or 0 if each has a WAY.
     */
    private int quarrelWith(int set, int more, int from, int taken) {
        if (more <= 0) {
            int answer = askSet(set);
            if (answer == SPENT) {
                return SPENT;
            }
            return answer == 1 ? 0 : set;
        }
        for (int k = from; k < sayingsMade; k++) {
            if ((taken >> k & 1) != 0) {
                int found = quarrelWith(set | 1 << k, more - 1, k + 1, taken);
                if (found != 0) {
                    return found;
                }
            }
        }
        return 0;
    }

    private void gatherGroups(int taken) {
        slipSets.begin();
        for (int root = 0; root < sayingsMade; root++) {
            int members = 0;
            for (int k = root; k < sayingsMade; k++) {
                if (rootOf(k) == root) {
                    members |= 1 << k;
                }
            }
            if ((members & taken) != 0) {
                slipSets.addGroup(root, members, sayings[root].weight);
            }
        }
    }

    /** Dates by the three calendars, and the DAYS that they are. */
    private static final class Calendars {
        private static final int GREGORIAN = 0;
        private static final int JULIAN = 1;
        private static final int EVEN = 2;
        private static final int LAST_YEAR = 2699;
        private static final int[] MONTH_DAYS = {31, 28, 31, 30, 31, 30, 31, 31, 30, 31, 30, 31};

        static boolean isCalendar(int calendar) {
            return calendar >= GREGORIAN && calendar <= EVEN;
        }

        static boolean isYear(int calendar, int year) {
            return isCalendar(calendar) && year >= 1 && year <= LAST_YEAR;
        }

        static boolean isMonth(int calendar, int year, int month) {
            return isYear(calendar, year) && month >= 1 && month <= months(calendar);
        }

        private static int months(int calendar) {
            return calendar == EVEN ? 13 : 12;
        }

        private static boolean isLeap(int calendar, int year) {
            if (calendar == EVEN || year % 4 != 0) {
                return false;
            }
            return calendar == JULIAN || year % 100 != 0 || year % 400 == 0;
        }

        static int monthDays(int calendar, int year, int month) {
            if (calendar == EVEN) {
                return month == 13 ? 5 : 30;
            }
            if (month < 1 || month > MONTH_DAYS.length) {
                return 0;
            }
            return month == 2 && isLeap(calendar, year) ? 29 : MONTH_DAYS[month - 1];
        }

        /** Where the year's first day lies, counted as DAYS are, though it may be ahead of DAY 0. */
        static int yearStart(int calendar, int year) {
            int past = year - 1;
            int start = 365 * past;
            if (calendar == GREGORIAN) {
                return start + past / 4 - past / 100 + past / 400;
            }
            return calendar == JULIAN ? start + past / 4 - 2 : start;
        }

        static int monthStart(int calendar, int year, int month) {
            int start = yearStart(calendar, year);
            for (int m = 1; m < month; m++) {
                start += monthDays(calendar, year, m);
            }
            return start;
        }

        static int dayOf(int calendar, int year, int month, int day) {
            if (!isMonth(calendar, year, month) || day < 1 || day > monthDays(calendar, year, month)) {
                return NONE;
            }
            int found = monthStart(calendar, year, month) + day - 1;
            return isDay(found) ? found : NONE;
        }

        private static int yearOf(int calendar, int day) {
            // No year is longer than 366 days, so this first guess is never too late.
            int year = day / 366 + 1;
            while (year <= LAST_YEAR && yearStart(calendar, year + 1) <= day) {
                year++;
            }
            return year <= LAST_YEAR ? year : NONE;
        }

        /** Of a DAY's date the year (what 0), the month (1), the day (2); NONE if there is none such. */
        static int partOf(int calendar, int day, int what) {
            if (!isCalendar(calendar) || !isDay(day) || what < 0 || what > 2) {
                return NONE;
            }
            int year = yearOf(calendar, day);
            if (what == 0 || year == NONE) {
                return year;
            }
            int rest = day - yearStart(calendar, year);
            int month = 1;
            while (month < months(calendar) && rest >= monthDays(calendar, year, month)) {
                rest -= monthDays(calendar, year, month);
                month++;
            }
            return what == 1 ? month : rest + 1;
        }

        static int yearsBehind(int calendar, int day, int n) {
            int year = partOf(calendar, day, 0);
            if (year == NONE || n < 0 || n > MAX_YEARS_BEHIND) {
                return NONE;
            }
            int month = partOf(calendar, day, 1);
            int dayOfMonth = partOf(calendar, day, 2);
            if (month == 2 && dayOfMonth > monthDays(calendar, year + n, month)) {
                return dayOf(calendar, year + n, 3, 1);
            }
            return dayOf(calendar, year + n, month, dayOfMonth);
        }
    }

    /** Rows of DAYS, rising and apart. */
    private static final class Spans {
        final int[] from = new int[FEAST_YEARS];
        final int[] to = new int[FEAST_YEARS];
        int size;

        void clear() {
            size = 0;
        }

        boolean has(int k) {
            return k >= 0 && k < size;
        }

        /** Adds what of a row lies in DAYS. */
        void add(int a, int b) {
            int low = Math.max(a, 0);
            int high = Math.min(b, LAST_DAY);
            if (low <= high && size < FEAST_YEARS) {
                from[size] = low;
                to[size] = high;
                size++;
            }
        }

        /**
         * Becomes the DAYS that both others have. FEAST_YEARS rows are enough: where one
         * of them has several rows, each is a feast's single day.
         */
        void setToCommon(Spans one, Spans other) {
            clear();
            int i = 0;
            int j = 0;
            while (i < one.size && j < other.size) {
                add(Math.max(one.from[i], other.from[j]), Math.min(one.to[i], other.to[j]));
                if (one.to[i] < other.to[j]) {
                    i++;
                } else {
                    j++;
                }
            }
        }
    }

    /** One SAYING; its number is its place among the bench's sayings. */
    private static final class Saying {
        final Spans spans = new Spans();
        int event;
        int what;
        int weight;
        boolean taken;
        int copyOf;
        int leastBehind;
        int mostBehind;
        int behindEvent;

        void begin(int ofEvent, int ofWhat, int ofWeight) {
            event = ofEvent;
            what = ofWhat;
            weight = ofWeight;
            taken = true;
            copyOf = NONE;
        }

        void setBehind(int least, int most, int ofEvent) {
            leastBehind = least;
            mostBehind = most;
            behindEvent = ofEvent;
        }
    }

    /**
     * The LOOKS of a question: begin() starts the question, lay() sets out some sayings,
     * find() adds a FIND to them, run() makes the LOOKS. A question may lay and run often.
     */
    private static final class Search {
        final int[] earliest = new int[MAX_EVENTS];
        final int[] latest = new int[MAX_EVENTS];
        int looks;
        private int events;
        private boolean spent;
        private boolean found;
        private boolean tillOne;
        private boolean together;
        private final Spans[] spans = new Spans[MAX_EVENTS];
        private Spans spare = new Spans();
        private final Spans findSpan = new Spans();
        /** apart[i][j]: the most that EVENT j may lie behind EVENT i. */
        private final int[][] apart = new int[MAX_EVENTS][MAX_EVENTS];
        /** low[d][e], high[d][e]: the least and the most DAY of e once EVENTS below d have taken. */
        private final int[][] low = new int[MAX_EVENTS + 1][MAX_EVENTS];
        private final int[][] high = new int[MAX_EVENTS + 1][MAX_EVENTS];

        Search() {
            for (int e = 0; e < MAX_EVENTS; e++) {
                spans[e] = new Spans();
            }
        }

        void begin(int eventsMade) {
            events = Math.min(eventsMade, MAX_EVENTS);
            looks = 0;
            spent = false;
        }

        void lay(Saying[] sayings, int set) {
            clearTable();
            for (int k = 0; k < sayings.length; k++) {
                if ((set >> k & 1) == 0) {
                    continue;
                }
                if (sayings[k].what == BEHIND) {
                    layBehind(sayings[k]);
                } else {
                    keepCommon(sayings[k].event, sayings[k].spans);
                }
            }
            together = closeApart();
            boundDays();
        }

        private void clearTable() {
            for (int i = 0; i < events; i++) {
                spans[i].clear();
                spans[i].add(0, LAST_DAY);
                for (int j = 0; j < events; j++) {
                    apart[i][j] = i == j ? 0 : LAST_DAY;
                }
            }
        }

        private void layBehind(Saying s) {
            int e = s.event;
            int c = s.behindEvent;
            apart[c][e] = Math.min(apart[c][e], s.mostBehind);
            apart[e][c] = Math.min(apart[e][c], -s.leastBehind);
        }

        private void keepCommon(int event, Spans others) {
            Spans before = spans[event];
            spare.setToCommon(before, others);
            spans[event] = spare;
            spare = before;
        }

        void find(int event, int day) {
            if (event >= 0 && event < events) {
                findSpan.clear();
                findSpan.add(day, day);
                keepCommon(event, findSpan);
            }
        }

        /** Shortest paths between all EVENTS; false if the BEHINDs alone can't be together. */
        private boolean closeApart() {
            for (int k = 0; k < events; k++) {
                for (int i = 0; i < events; i++) {
                    for (int j = 0; j < events; j++) {
                        apart[i][j] = Math.min(apart[i][j], apart[i][k] + apart[k][j]);
                    }
                }
                // Looked at in each round, so that sums along a circle can't run away.
                for (int i = 0; i < events; i++) {
                    if (apart[i][i] < 0) {
                        return false;
                    }
                }
            }
            return true;
        }

        /** The bounds ahead of any taking: all EVENTS in DAYS and the BEHINDs. */
        private void boundDays() {
            for (int e = 0; e < events; e++) {
                low[0][e] = 0;
                high[0][e] = LAST_DAY;
                for (int i = 0; i < events; i++) {
                    low[0][e] = Math.max(low[0][e], -apart[e][i]);
                    high[0][e] = Math.min(high[0][e], LAST_DAY + apart[i][e]);
                }
            }
        }

        /** 1, 0 or SPENT: whether there is a WAY; not till one, all have made earliest and latest. */
        int run(boolean stopAtOne) {
            tillOne = stopAtOne;
            found = false;
            takeSpans(0);
            if (spent) {
                return SPENT;
            }
            return found ? 1 : 0;
        }

        private void takeSpans(int event) {
            if (event >= events) {
                noteWay();
                return;
            }
            for (int k = 0; k < spans[event].size; k++) {
                if (looks >= MAX_LOOKS) {
                    spent = true;
                    return;
                }
                looks++;
                if (together && narrow(event, spans[event].from[k], spans[event].to[k])) {
                    takeSpans(event + 1);
                }
                if (spent || (tillOne && found)) {
                    return;
                }
            }
        }

        /**
         * Puts an EVENT into a row of DAYS; false if it can't be there. The bounds so far
         * are exact (each DAY within them is part of some choice of DAYS for all EVENTS),
         * so it is enough to look at the one EVENT, and one step to all others keeps them so.
         */
        private boolean narrow(int event, int from, int to) {
            int least = Math.max(from, low[event][event]);
            int most = Math.min(to, high[event][event]);
            if (least > most) {
                return false;
            }
            for (int e = 0; e < events; e++) {
                low[event + 1][e] = Math.max(low[event][e], least - apart[e][event]);
                high[event + 1][e] = Math.min(high[event][e], most + apart[event][e]);
            }
            return true;
        }

        private void noteWay() {
            for (int e = 0; e < events; e++) {
                int least = low[events][e];
                int most = high[events][e];
                earliest[e] = found ? Math.min(earliest[e], least) : least;
                latest[e] = found ? Math.max(latest[e], most) : most;
            }
            found = true;
        }
    }

    /** The GROUPS that slips() weighs, the lightest sets so far, and those told last. */
    private static final class SlipSets {
        /** Sets of one weight never hold one another, and of 12 things at most 924 sets do not. */
        private static final int MAX_SETS = 924;

        int groups;
        int least;
        int told;
        final int[] toldSets = new int[MAX_SETS];
        private final int[] root = new int[MAX_SAYINGS];
        private final int[] members = new int[MAX_SAYINGS];
        private final int[] weight = new int[MAX_SAYINGS];
        private final int[] lightest = new int[MAX_SETS];
        private int size;

        void begin() {
            groups = 0;
            size = 0;
            least = 0;
        }

        void addGroup(int groupRoot, int groupMembers, int groupWeight) {
            if (groups < MAX_SAYINGS) {
                root[groups] = groupRoot;
                members[groups] = groupMembers;
                weight[groups] = groupWeight;
                groups++;
            }
        }

        int weightOf(int set) {
            int sum = 0;
            for (int k = 0; k < groups; k++) {
                sum += (set >> k & 1) != 0 ? weight[k] : 0;
            }
            return sum;
        }

        int sayingsOf(int set) {
            int all = 0;
            for (int k = 0; k < groups; k++) {
                all |= (set >> k & 1) != 0 ? members[k] : 0;
            }
            return all;
        }

        int rootsOf(int set) {
            int all = 0;
            for (int k = 0; k < groups; k++) {
                all |= (set >> k & 1) != 0 ? 1 << root[k] : 0;
            }
            return all;
        }

        boolean tooHeavy(int setWeight) {
            return size > 0 && setWeight > least;
        }

        void note(int setWeight, int roots) {
            if (size == 0 || setWeight < least) {
                size = 0;
                least = setWeight;
            }
            if (size < MAX_SETS) {
                lightest[size] = roots;
                size++;
            }
        }

        void tell() {
            System.arraycopy(lightest, 0, toldSets, 0, size);
            told = size;
        }
    }
}
