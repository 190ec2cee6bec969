/**
 * Promises 2 (day), 3 (date) and 4 (years) by section 1 of the terms: each boundary that it names, on it
 * and one step to each side. A test's comment tells the words that it is about.
 */
public final class DayBoundaryTest {
    private static final int NONE = -1;
    private static final int[] LENGTHS = {31, 28, 31, 30, 31, 30, 31, 31, 30, 31, 30, 31};
    private static final int[] FIRST_YEAR_STARTS = {0, -2, 0};
    private static final int[] LAST_DATES = {985788, 985806, 985134};

    /** An object is promised for 512 calls only, so each call has a new one. */
    private static void day(int calendar, int year, int month, int day, int want) {
        Check.due("day(" + calendar + ", " + year + ", " + month + ", " + day + ")",
            new DayBench().day(calendar, year, month, day), want);
    }

    private static void date(int calendar, int day, int year, int month, int dayOfMonth) {
        int[] want = {year, month, dayOfMonth};
        DayBench x = new DayBench();
        for (int what = 0; what < 3; what++) {
            Check.due("date(" + calendar + ", " + day + ", " + what + ")", x.date(calendar, day, what), want[what]);
        }
    }

    private static void noDate(int calendar, int day) {
        date(calendar, day, NONE, NONE, NONE);
    }

    private static void years(int calendar, int day, int n, int want) {
        Check.due("years(" + calendar + ", " + day + ", " + n + ")", new DayBench().years(calendar, day, n), want);
    }

    public static void main(String[] args) {
        threeCalendars();
        days();
        firstYear();
        lastYear();
        gregorianLeapYears();
        julianLeapYears();
        gregorianBegins();
        julianBegins();
        evenMonths();
        lengthsOfMonths();
        monthsOfAYear();
        monthsAndYearsTurn();
        whatOfDate();
        nOfYears();
        leapDayBehind();
        aroundTheLeapDayBehind();
        yearsBeyond();
        yearsOfNoDay();
        Check.end();
    }

    /** "CALENDARS ..: 0 .. 1 .. 2". */
    private static void threeCalendars() {
        for (int calendar : new int[] {Integer.MIN_VALUE, -1, 3, Integer.MAX_VALUE}) {
            day(calendar, 5, 1, 1, NONE);
            noDate(calendar, 1461);
            years(calendar, 1461, 0, NONE);
            years(calendar, 1461, 1, NONE);
        }
        day(0, 5, 1, 1, 1461);
        day(1, 5, 1, 3, 1461);
        day(2, 5, 1, 2, 1461);
        date(0, 1461, 5, 1, 1);
        date(1, 1461, 5, 1, 3);
        date(2, 1461, 5, 1, 2);
        years(0, 1461, 1, 1461 + 365);
        years(1, 1461, 1, 1461 + 365);
        years(2, 1461, 1, 1461 + 365);
        years(2, 1461, 4, 1461 + 4 * 365);
        years(0, 1461, 4, 1461 + 4 * 365 + 1);
    }

    /** "DAYS 0 .. 985999"; the last of them have no date, since years end with 2699. */
    private static void days() {
        for (int calendar = 0; calendar < 3; calendar++) {
            noDate(calendar, Integer.MIN_VALUE);
            noDate(calendar, -2);
            noDate(calendar, -1);
            noDate(calendar, LAST_DATES[calendar] + 1);
            noDate(calendar, LAST_DATES[calendar] + 2);
            noDate(calendar, 985998);
            noDate(calendar, 985999);
            noDate(calendar, 986000);
            noDate(calendar, Integer.MAX_VALUE);
        }
        date(0, 0, 1, 1, 1);
        date(0, 1, 1, 1, 2);
        date(1, 0, 1, 1, 3);
        date(1, 1, 1, 1, 4);
        date(2, 0, 1, 1, 1);
        date(2, 1, 1, 1, 2);
        date(0, 985787, 2699, 12, 30);
        date(0, 985788, 2699, 12, 31);
        date(1, 985805, 2699, 12, 30);
        date(1, 985806, 2699, 12, 31);
        date(2, 985133, 2699, 13, 4);
        date(2, 985134, 2699, 13, 5);
    }

    /** "years 1 ..". */
    private static void firstYear() {
        for (int calendar = 0; calendar < 3; calendar++) {
            int start = FIRST_YEAR_STARTS[calendar];
            day(calendar, Integer.MIN_VALUE, 5, 5, NONE);
            day(calendar, -1, 12, 5, NONE);
            day(calendar, 0, 12, 5, NONE);
            day(calendar, 0, 1, 5, NONE);
            day(calendar, 1, 1, 5, start + 4);
            day(calendar, 2, 1, 5, start + 365 + 4);
        }
    }

    /** "years .. 2699": the DAYS behind them would have place for some of 2700, but there is none such. */
    private static void lastYear() {
        day(0, 2698, 1, 1, 985059);
        day(0, 2699, 1, 1, 985424);
        day(0, 2699, 12, 31, 985788);
        day(1, 2698, 1, 1, 985077);
        day(1, 2699, 1, 1, 985442);
        day(1, 2699, 12, 31, 985806);
        day(2, 2698, 1, 1, 984405);
        day(2, 2699, 1, 1, 984770);
        day(2, 2699, 13, 5, 985134);
        for (int calendar = 0; calendar < 3; calendar++) {
            day(calendar, 2700, 1, 1, NONE);
            day(calendar, 2700, 1, 2, NONE);
            day(calendar, 2701, 1, 1, NONE);
            day(calendar, Integer.MAX_VALUE, 1, 1, NONE);
        }
    }

    private static void leap(int calendar, int year, boolean is) {
        int end = Walk.day(calendar, year, 2, 28);
        day(calendar, year, 2, 28, end);
        day(calendar, year, 2, 29, is ? end + 1 : NONE);
        day(calendar, year, 2, 30, NONE);
        day(calendar, year, 3, 1, is ? end + 2 : end + 1);
        date(calendar, end, year, 2, 28);
        date(calendar, end + 1, year, is ? 2 : 3, is ? 29 : 1);
        date(calendar, end + 2, year, 3, is ? 1 : 2);
        day(calendar, year + 1, 1, 1, Walk.day(calendar, year, 1, 4) + (is ? 363 : 362));
    }

    /** "leap years are those that 4 divides, but of those that 100 divides only those that 400 does". */
    private static void gregorianLeapYears() {
        for (int year : new int[] {4, 8, 96, 104, 396, 400, 404, 800, 1200, 1600, 1996, 2000, 2004, 2396, 2400, 2404, 2696}) {
            leap(0, year, true);
            leap(0, year - 1, false);
            leap(0, year + 1, false);
        }
        for (int year : new int[] {100, 200, 300, 500, 600, 700, 1700, 1800, 1900, 2100, 2200, 2300, 2500, 2600}) {
            leap(0, year - 1, false);
            leap(0, year, false);
            leap(0, year + 1, false);
        }
    }

    /** "all that 4 divides are leap years". */
    private static void julianLeapYears() {
        for (int year : new int[] {4, 96, 100, 104, 200, 300, 396, 400, 404, 1700, 1896, 1900, 1904, 2000, 2100, 2600, 2696}) {
            leap(1, year, true);
            leap(1, year - 1, false);
            leap(1, year + 1, false);
        }
    }

    /** "1 January 1 is DAY 0". */
    private static void gregorianBegins() {
        day(0, 0, 12, 31, NONE);
        day(0, 1, 1, 0, NONE);
        day(0, 1, 1, 1, 0);
        day(0, 1, 1, 2, 1);
    }

    /** "its 3 January 1 is DAY 0": the two dates ahead are of no DAY. */
    private static void julianBegins() {
        day(1, 0, 12, 31, NONE);
        day(1, 1, 1, 0, NONE);
        day(1, 1, 1, 1, NONE);
        day(1, 1, 1, 2, NONE);
        day(1, 1, 1, 3, 0);
        day(1, 1, 1, 4, 1);
    }

    /** "twelve months of 30 days, a thirteenth of 5; 1, 1, 1 is DAY 0"; no year is longer. */
    private static void evenMonths() {
        for (int year : new int[] {1, 2, 3, 4, 5, 100, 400, 2000, 2698, 2699}) {
            int start = 365 * (year - 1);
            for (int month = 1; month <= 12; month++) {
                day(2, year, month, 0, NONE);
                day(2, year, month, 1, start + 30 * (month - 1));
                day(2, year, month, 29, start + 30 * month - 2);
                day(2, year, month, 30, start + 30 * month - 1);
                day(2, year, month, 31, NONE);
                date(2, start + 30 * month - 1, year, month, 30);
                date(2, start + 30 * month, year, month + 1, 1);
            }
            day(2, year, 13, 0, NONE);
            day(2, year, 13, 1, start + 360);
            day(2, year, 13, 4, start + 363);
            day(2, year, 13, 5, start + 364);
            day(2, year, 13, 6, NONE);
            day(2, year, 14, 1, NONE);
            day(2, year, 0, 1, NONE);
            date(2, start + 363, year, 13, 4);
            date(2, start + 364, year, 13, 5);
        }
        date(2, 365, 2, 1, 1);
        date(2, 4 * 365 - 1, 4, 13, 5);
        date(2, 4 * 365, 5, 1, 1);
    }

    /** "A date is one of a DAY, or there is none such": a month's days end where they end. */
    private static void lengthsOfMonths() {
        for (int calendar = 0; calendar < 2; calendar++) {
            int start = FIRST_YEAR_STARTS[calendar] + 365;
            for (int month = 1; month <= 12; month++) {
                int length = LENGTHS[month - 1];
                day(calendar, 2, month, Integer.MIN_VALUE, NONE);
                day(calendar, 2, month, -1, NONE);
                day(calendar, 2, month, 0, NONE);
                day(calendar, 2, month, 1, start);
                day(calendar, 2, month, 2, start + 1);
                day(calendar, 2, month, length - 1, start + length - 2);
                day(calendar, 2, month, length, start + length - 1);
                day(calendar, 2, month, length + 1, NONE);
                day(calendar, 2, month, Integer.MAX_VALUE, NONE);
                date(calendar, start, 2, month, 1);
                date(calendar, start + length - 1, 2, month, length);
                start += length;
            }
            date(calendar, start, 3, 1, 1);
        }
    }

    /** Months 1 .. 12, in the EVEN calendar 1 .. 13. */
    private static void monthsOfAYear() {
        for (int calendar = 0; calendar < 3; calendar++) {
            int start = FIRST_YEAR_STARTS[calendar] + 365;
            day(calendar, 2, Integer.MIN_VALUE, 1, NONE);
            day(calendar, 2, -1, 1, NONE);
            day(calendar, 2, 0, 1, NONE);
            day(calendar, 2, 1, 1, start);
            day(calendar, 2, 11, 1, start + (calendar == 2 ? 300 : 304));
            day(calendar, 2, 12, 1, start + (calendar == 2 ? 330 : 334));
            day(calendar, 2, 13, 1, calendar == 2 ? start + 360 : NONE);
            day(calendar, 2, 14, 1, NONE);
            day(calendar, 2, Integer.MAX_VALUE, 1, NONE);
        }
    }

    /** The DAY behind a year's last is the first of the next, by each calendar. */
    private static void monthsAndYearsTurn() {
        for (int calendar = 0; calendar < 3; calendar++) {
            for (int year : new int[] {2, 4, 5, 100, 101, 400, 401, 1900, 2000, 2001, 2100, 2400, 2699}) {
                int first = new DayBench().day(calendar, year, 1, 1);
                date(calendar, first - 1, year - 1, calendar == 2 ? 13 : 12, calendar == 2 ? 5 : 31);
                date(calendar, first, year, 1, 1);
                date(calendar, first + 1, year, 1, 2);
            }
        }
    }

    /** "what 0: the year, 1: the month, 2: the day; NONE if there is none such". */
    private static void whatOfDate() {
        DayBench x = new DayBench();
        Check.due("date(0, 577735, MIN)", x.date(0, 577735, Integer.MIN_VALUE), NONE);
        Check.due("date(0, 577735, -1)", x.date(0, 577735, -1), NONE);
        Check.due("date(0, 577735, 0)", x.date(0, 577735, 0), 1582);
        Check.due("date(0, 577735, 1)", x.date(0, 577735, 1), 10);
        Check.due("date(0, 577735, 2)", x.date(0, 577735, 2), 15);
        Check.due("date(0, 577735, 3)", x.date(0, 577735, 3), NONE);
        Check.due("date(0, 577735, MAX)", x.date(0, 577735, Integer.MAX_VALUE), NONE);
    }

    /** "n (0 .. 100) years behind it". */
    private static void nOfYears() {
        for (int calendar = 0; calendar < 3; calendar++) {
            int from = Walk.day(calendar, 1500, 6, 15);
            years(calendar, from, Integer.MIN_VALUE, NONE);
            years(calendar, from, -2, NONE);
            years(calendar, from, -1, NONE);
            years(calendar, from, 0, from);
            years(calendar, from, 1, from + 365);
            years(calendar, from, 99, Walk.day(calendar, 1599, 6, 15));
            years(calendar, from, 100, Walk.day(calendar, 1600, 6, 15));
            years(calendar, from, 101, NONE);
            years(calendar, from, 102, NONE);
            years(calendar, from, Integer.MAX_VALUE, NONE);
        }
    }

    /** "what is 29 February where there is none: 1 March". */
    private static void leapDayBehind() {
        int gregorian = Walk.day(0, 1896, 2, 29);
        years(0, gregorian, 0, gregorian);
        years(0, gregorian, 1, Walk.day(0, 1897, 3, 1));
        years(0, gregorian, 3, Walk.day(0, 1899, 3, 1));
        years(0, gregorian, 4, Walk.day(0, 1900, 3, 1));
        years(0, gregorian, 5, Walk.day(0, 1901, 3, 1));
        years(0, gregorian, 7, Walk.day(0, 1903, 3, 1));
        years(0, gregorian, 8, Walk.day(0, 1904, 2, 29));
        years(0, gregorian, 9, Walk.day(0, 1905, 3, 1));
        years(0, Walk.day(0, 1996, 2, 29), 4, Walk.day(0, 2000, 2, 29));
        int julian = Walk.day(1, 1896, 2, 29);
        years(1, julian, 0, julian);
        years(1, julian, 3, Walk.day(1, 1899, 3, 1));
        years(1, julian, 4, Walk.day(1, 1900, 2, 29));
        years(1, julian, 5, Walk.day(1, 1901, 3, 1));
        years(1, julian, 100, Walk.day(1, 1996, 2, 29));
        years(1, Walk.day(1, 2696, 2, 29), 3, Walk.day(1, 2699, 3, 1));
        years(1, Walk.day(1, 2696, 2, 29), 4, NONE);
        years(0, Walk.day(0, 2596, 2, 29), 4, Walk.day(0, 2600, 3, 1));
    }

    /** The dates beside 29 February, and the EVEN calendar's 29 and 30 of its second month, stay what they are. */
    private static void aroundTheLeapDayBehind() {
        for (int calendar = 0; calendar < 2; calendar++) {
            for (int n : new int[] {1, 3, 4, 5}) {
                years(calendar, Walk.day(calendar, 1896, 2, 28), n, Walk.day(calendar, 1896 + n, 2, 28));
                years(calendar, Walk.day(calendar, 1896, 3, 1), n, Walk.day(calendar, 1896 + n, 3, 1));
                years(calendar, Walk.day(calendar, 1895, 2, 28), n, Walk.day(calendar, 1895 + n, 2, 28));
                years(calendar, Walk.day(calendar, 1895, 3, 1), n, Walk.day(calendar, 1895 + n, 3, 1));
            }
            years(calendar, Walk.day(calendar, 1895, 1, 31), 1, Walk.day(calendar, 1896, 1, 31));
            years(calendar, Walk.day(calendar, 1895, 12, 31), 1, Walk.day(calendar, 1896, 12, 31));
        }
        for (int day = 28; day <= 30; day++) {
            years(2, Walk.day(2, 4, 2, day), 1, Walk.day(2, 5, 2, day));
            years(2, Walk.day(2, 3, 2, day), 1, Walk.day(2, 4, 2, day));
        }
        years(2, Walk.day(2, 4, 13, 5), 1, Walk.day(2, 5, 13, 5));
    }

    /** "beyond DAYS: none such", and so is a year that is none of a CALENDAR's. */
    private static void yearsBeyond() {
        for (int calendar = 0; calendar < 3; calendar++) {
            int month = calendar == 2 ? 13 : 12;
            int end = calendar == 2 ? 5 : 31;
            int last = LAST_DATES[calendar];
            years(calendar, last, 0, last);
            years(calendar, last, 1, NONE);
            years(calendar, Walk.day(calendar, 2698, month, end), 0, last - 365);
            years(calendar, Walk.day(calendar, 2698, month, end), 1, last);
            years(calendar, Walk.day(calendar, 2698, month, end), 2, NONE);
            years(calendar, Walk.day(calendar, 2699, 1, 1), 0, last - 364);
            years(calendar, Walk.day(calendar, 2699, 1, 1), 1, NONE);
            years(calendar, Walk.day(calendar, 2599, 6, 5), 99, Walk.day(calendar, 2698, 6, 5));
            years(calendar, Walk.day(calendar, 2599, 6, 5), 100, Walk.day(calendar, 2699, 6, 5));
            years(calendar, Walk.day(calendar, 2600, 6, 5), 99, Walk.day(calendar, 2699, 6, 5));
            years(calendar, Walk.day(calendar, 2600, 6, 5), 100, NONE);
        }
    }

    /** "A DAY's": what is no DAY, or a DAY without a date, has no years behind it. */
    private static void yearsOfNoDay() {
        for (int calendar = 0; calendar < 3; calendar++) {
            years(calendar, Integer.MIN_VALUE, 0, NONE);
            years(calendar, -1, 0, NONE);
            years(calendar, -1, 1, NONE);
            years(calendar, 0, 0, 0);
            years(calendar, 0, 1, 365);
            years(calendar, 1, 0, 1);
            years(calendar, LAST_DATES[calendar] - 1, 0, LAST_DATES[calendar] - 1);
            years(calendar, LAST_DATES[calendar], 0, LAST_DATES[calendar]);
            years(calendar, LAST_DATES[calendar] + 1, 0, NONE);
            years(calendar, 985999, 0, NONE);
            years(calendar, 986000, 0, NONE);
            years(calendar, Integer.MAX_VALUE, 0, NONE);
        }
    }
}
