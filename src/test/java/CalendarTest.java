/** Promises 2 (day), 3 (date) and 4 (years), against calendars that are walked day by day. */
public final class CalendarTest {
    /** An object is promised for 512 calls only, so it is changed for a new one in time. */
    private static DayBench bench = new DayBench();
    private static int calls = 0;

    private static DayBench bench() {
        if (++calls > 500) {
            bench = new DayBench();
            calls = 1;
        }
        return bench;
    }

    private static void day(int calendar, int year, int month, int day, int want) {
        Check.due("day(" + calendar + ", " + year + ", " + month + ", " + day + ")",
            bench().day(calendar, year, month, day), want);
    }

    private static void date(int calendar, int day, int what, int want) {
        Check.due("date(" + calendar + ", " + day + ", " + what + ")", bench().date(calendar, day, what), want);
    }

    private static void years(int calendar, int day, int n, int want) {
        Check.due("years(" + calendar + ", " + day + ", " + n + ")", bench().years(calendar, day, n), want);
    }

    public static void main(String[] args) {
        edgesOfDay();
        edgesOfDate();
        edgesOfYears();
        everyDate();
        everyDay();
        gregorianAsTheLibraryHasIt();
        Check.end();
    }

    private static void edgesOfDay() {
        day(0, 1, 1, 1, 0);
        day(1, 1, 1, 1, -1);
        day(1, 1, 1, 2, -1);
        day(1, 1, 1, 3, 0);
        day(1, 1, 1, 4, 1);
        day(2, 1, 1, 1, 0);
        day(2, 1, 13, 5, 364);
        day(2, 1, 13, 6, -1);
        day(2, 1, 14, 1, -1);
        day(2, 4, 13, 6, -1);
        day(2, 1, 2, 30, 59);
        day(2, 1, 2, 31, -1);
        day(0, 1, 13, 1, -1);
        day(1, 1, 13, 1, -1);
        day(0, 2699, 12, 31, 985788);
        day(1, 2699, 12, 31, 985806);
        day(2, 2699, 13, 5, 985134);
        for (int calendar = 0; calendar < 3; calendar++) {
            day(calendar, 2700, 1, 1, -1);
            day(calendar, 0, 1, 1, -1);
            day(calendar, -1, 1, 1, -1);
            day(calendar, 5, 0, 1, -1);
            day(calendar, 5, -1, 1, -1);
            day(calendar, 5, 1, 0, -1);
            day(calendar, 5, 1, 32, -1);
            day(calendar, Integer.MIN_VALUE, 1, 1, -1);
            day(calendar, Integer.MAX_VALUE, 1, 1, -1);
            day(calendar, 1, Integer.MIN_VALUE, 1, -1);
            day(calendar, 1, Integer.MAX_VALUE, 1, -1);
            day(calendar, 1, 1, Integer.MIN_VALUE, -1);
            day(calendar, 1, 1, Integer.MAX_VALUE, -1);
        }
        day(-1, 5, 1, 1, -1);
        day(3, 5, 1, 1, -1);
        day(0, 400, 2, 29, 145790);
        day(0, 2400, 2, 29, 876275);
        day(0, 2100, 2, 29, -1);
        day(1, 2100, 2, 29, 766716);
        day(0, 4, 2, 29, 1154);
        day(0, 5, 2, 29, -1);
        day(1, 5, 2, 29, -1);
    }

    private static void edgesOfDate() {
        int[] wrongDays = {-1, 986000, Integer.MIN_VALUE, Integer.MAX_VALUE};
        for (int what = 0; what < 3; what++) {
            for (int wrong : wrongDays) {
                date(0, wrong, what, -1);
                date(1, wrong, what, -1);
                date(2, wrong, what, -1);
            }
            date(0, 985789, what, -1);
            date(1, 985807, what, -1);
            date(2, 985135, what, -1);
            date(0, 985999, what, -1);
            date(-1, 5, what, -1);
            date(3, 5, what, -1);
        }
        date(0, 5, -1, -1);
        date(0, 5, 3, -1);
        date(2, 985134, 0, 2699);
        date(2, 985134, 1, 13);
        date(2, 985134, 2, 5);
        date(1, 985806, 0, 2699);
    }

    private static void edgesOfYears() {
        int leapDay = Walk.day(0, 2000, 2, 29);
        years(0, leapDay, 0, leapDay);
        years(0, leapDay, 1, Walk.day(0, 2001, 3, 1));
        years(0, leapDay, 4, Walk.day(0, 2004, 2, 29));
        years(0, leapDay, 100, Walk.day(0, 2100, 3, 1));
        years(0, leapDay, 101, -1);
        years(0, leapDay, -1, -1);
        years(0, leapDay, Integer.MIN_VALUE, -1);
        years(0, leapDay, Integer.MAX_VALUE, -1);
        years(1, Walk.day(1, 2000, 2, 29), 100, Walk.day(1, 2100, 2, 29));
        years(2, Walk.day(2, 7, 2, 29), 1, Walk.day(2, 8, 2, 29));
        years(0, 985788, 0, 985788);
        years(0, 985788, 1, -1);
        // A year 2700 is none of a calendar's, even where its DAYS would be some.
        years(0, Walk.day(0, 2699, 1, 1), 1, -1);
        years(2, Walk.day(2, 2699, 1, 1), 1, -1);
        years(0, Walk.day(0, 2600, 1, 1), 99, Walk.day(0, 2699, 1, 1));
        years(0, Walk.day(0, 2600, 1, 1), 100, -1);
        years(0, 985789, 0, -1);
        years(2, 985135, 0, -1);
        years(0, -1, 0, -1);
        years(0, 986000, 0, -1);
        years(3, 0, 0, -1);
        years(-1, 0, 0, -1);
    }

    private static void everyDate() {
        for (int calendar = 0; calendar < 3; calendar++) {
            for (int year = 0; year <= 2700; year++) {
                for (int month = 0; month <= 14; month++) {
                    for (int d = 27; d <= 32; d++) {
                        day(calendar, year, month, d, Walk.day(calendar, year, month, d));
                    }
                    day(calendar, year, month, 1, Walk.day(calendar, year, month, 1));
                    day(calendar, year, month, 5, Walk.day(calendar, year, month, 5));
                    day(calendar, year, month, 6, Walk.day(calendar, year, month, 6));
                }
            }
        }
    }

    private static void everyDay() {
        for (int calendar = 0; calendar < 3; calendar++) {
            for (int day = 0; day < Walk.DAYS; day++) {
                for (int what = 0; what < 3; what++) {
                    date(calendar, day, what, Walk.date(calendar, day, what));
                }
                int n = day % 103 - 1;
                years(calendar, day, n, Walk.years(calendar, day, n));
            }
        }
    }

    private static void gregorianAsTheLibraryHasIt() {
        long dayZero = java.time.LocalDate.of(1, 1, 1).toEpochDay();
        for (int day = 0; day <= 985788; day += 7) {
            java.time.LocalDate date = java.time.LocalDate.ofEpochDay(dayZero + day);
            day(0, date.getYear(), date.getMonthValue(), date.getDayOfMonth(), day);
        }
    }
}
