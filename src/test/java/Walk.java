/** The three calendars walked day by day from their first day on: slow, but plain. */
final class Walk {
    static final int DAYS = 986000;
    private static final int[] LENGTHS = {31, 28, 31, 30, 31, 30, 31, 31, 30, 31, 30, 31};
    private static final int[][] DATE_OF_DAY = new int[3][DAYS];
    private static final int[][] DAY_OF_DATE = new int[3][2700 * 10000 / 16];

    static {
        for (int calendar = 0; calendar < 3; calendar++) {
            java.util.Arrays.fill(DATE_OF_DAY[calendar], -1);
            java.util.Arrays.fill(DAY_OF_DATE[calendar], -1);
            walk(calendar);
        }
    }

    private Walk() { }

    private static void walk(int calendar) {
        int day = calendar == 1 ? -2 : 0;
        for (int year = 1; year <= 2699; year++) {
            for (int month = 1; month <= (calendar == 2 ? 13 : 12); month++) {
                for (int d = 1; d <= length(calendar, year, month); d++) {
                    if (day >= 0 && day < DAYS) {
                        DATE_OF_DAY[calendar][day] = year * 10000 + month * 100 + d;
                        DAY_OF_DATE[calendar][key(year, month, d)] = day;
                    }
                    day++;
                }
            }
        }
    }

    private static int key(int year, int month, int day) {
        return (year * 14 + month) * 32 + day;
    }

    static int length(int calendar, int year, int month) {
        if (calendar == 2) {
            return month == 13 ? 5 : 30;
        }
        boolean leap = year % 4 == 0;
        if (calendar == 0 && year % 100 == 0 && year % 400 != 0) {
            leap = false;
        }
        return month == 2 && leap ? 29 : LENGTHS[month - 1];
    }

    static int day(int calendar, int year, int month, int day) {
        if (calendar < 0 || calendar > 2 || year < 1 || year > 2699 || month < 1 || month > 13 || day < 1 || day > 31) {
            return -1;
        }
        return DAY_OF_DATE[calendar][key(year, month, day)];
    }

    static int date(int calendar, int day, int what) {
        if (calendar < 0 || calendar > 2 || day < 0 || day >= DAYS || what < 0 || what > 2) {
            return -1;
        }
        int date = DATE_OF_DAY[calendar][day];
        if (date < 0) {
            return -1;
        }
        return what == 0 ? date / 10000 : what == 1 ? date / 100 % 100 : date % 100;
    }

    static int years(int calendar, int day, int n) {
        int year = date(calendar, day, 0);
        if (year < 0 || n < 0 || n > 100) {
            return -1;
        }
        int month = date(calendar, day, 1);
        int d = date(calendar, day, 2);
        int there = day(calendar, year + n, month, d);
        return there < 0 && calendar != 2 && month == 2 && d == 29 ? day(calendar, year + n, 3, 1) : there;
    }
}
