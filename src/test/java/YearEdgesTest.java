/** "YEARS are numbers up to 5000, from FIRST on", MONTHS and days from 1 on, and what each calendar tells of its own. */
public final class YearEdgesTest {
    private static final int BAD = AlmanacHouse.BAD, NONE = AlmanacHouse.NONE, OUTSIDE = AlmanacHouse.OUTSIDE,
            LAST = Scenes.LAST;
    private static final int[] FIRST = {0, 0, 1, 1, 1, 0, 0, 1};
    private static final int[] FAR = {Integer.MIN_VALUE, -1, Integer.MAX_VALUE};
    private static final Scene FURNISHED = Scenes.furnished();

    public static void main(String[] args) {
        noCalendar();
        yearsOfCalendars();
        yearsOfTheFirst();
        monthsAndDays();
        oneBehindTheOther();
        leapYears();
        thirteenMonths();
        tabledMoons();
        countedMoons();
        countedBeginnings();
        weeks();
        round();
        rows();
        firstRefusal();
        Check.done();
    }

    private static void noCalendar() {
        for (int c : new int[] {-1, 8, Integer.MIN_VALUE, Integer.MAX_VALUE}) {
            FURNISHED.refuses("toDay of calendar " + c, h -> h.toDay(c, 1, 1, 1), BAD);
            FURNISHED.refuses("fromDay of calendar " + c, h -> h.fromDay(c, 1, 1), BAD);
            FURNISHED.refuses("monthLength of calendar " + c, h -> h.monthLength(c, 1, 1), BAD);
            FURNISHED.refuses("yearLength of calendar " + c, h -> h.yearLength(c, 1), BAD);
            FURNISHED.refuses("months of calendar " + c, h -> h.months(c, 1), BAD);
        }
    }

    /** FIRST and 5000 are YEARS, the one ahead of FIRST and 5001 are none; each number of days is a count by hand. */
    private static void yearsOfCalendars() {
        int[] daysOfFirst = {366, 366, 365, 354, 355, 371, 360, 300};
        int[] monthsOfFirst = {12, 12, 13, 12, 12, 53, 18, 10};
        int[] daysOfLast = {365, 366, 365, 354, 383, 364, 360};
        int[] monthsOfLast = {12, 12, 13, 12, 13, 52, 18};
        for (int c = 0; c <= 7; c++) {
            AlmanacHouse h = FURNISHED.house();
            Check.same("days of the first year of " + c, h.yearLength(c, FIRST[c]), daysOfFirst[c]);
            Check.same("months of the first year of " + c, h.months(c, FIRST[c]), monthsOfFirst[c]);
            noYear(c, FIRST[c] - 1);
            if (c < 7) {
                Check.same("days of 5000 of " + c, h.yearLength(c, 5000), daysOfLast[c]);
                Check.same("months of 5000 of " + c, h.months(c, 5000), monthsOfLast[c]);
                Check.same("a month of 5000 of " + c, h.monthLength(c, 5000, 1) > 0 ? 1 : 0, 1);
                int calendar = c;
                FURNISHED.refuses("a day of 5000 of " + c, g -> g.toDay(calendar, 5000, 1, 1), OUTSIDE);
                FURNISHED.refuses("page of 5000 of " + c, g -> g.page(0, calendar, 5000, 1), OUTSIDE);
            } else {
                noYear(c, 5000);
            }
            noYear(c, 5001);
            for (int year : FAR) {
                noYear(c, year);
            }
        }
    }

    private static void noYear(int c, int year) {
        FURNISHED.refuses("months(" + c + ", " + year + ")", h -> h.months(c, year), NONE);
        FURNISHED.refuses("yearLength(" + c + ", " + year + ")", h -> h.yearLength(c, year), NONE);
        FURNISHED.refuses("monthLength(" + c + ", " + year + ", 1)", h -> h.monthLength(c, year, 1), NONE);
        FURNISHED.refuses("toDay(" + c + ", " + year + ", 1, 1)", h -> h.toDay(c, year, 1, 1), NONE);
        FURNISHED.refuses("page(0, " + c + ", " + year + ", 1)", h -> h.page(0, c, year, 1), NONE);
    }

    /** The calls that take a YEAR of calendar 0. */
    private static void yearsOfTheFirst() {
        for (int year : new int[] {-1, 5001, Integer.MIN_VALUE, Integer.MAX_VALUE}) {
            FURNISHED.refuses("birthday in " + year, h -> h.birthday(0, 5, year), NONE);
            FURNISHED.refuses("feastDay in " + year, h -> h.feastDay(0, year), NONE);
            FURNISHED.refuses("moved in " + year, h -> h.moved(0, year), NONE);
            FURNISHED.refuses("movable of 0 in " + year, h -> h.movable(0, year), NONE);
            FURNISHED.refuses("movable of 1 in " + year, h -> h.movable(1, year), NONE);
            FURNISHED.refuses("book of " + year, h -> h.book(0, year), NONE);
        }
        FURNISHED.refuses("birthday in 5000", h -> h.birthday(0, 5, 5000), NONE);
        FURNISHED.refuses("feastDay in 5000", h -> h.feastDay(0, 5000), NONE);
        FURNISHED.refuses("movable in 5000", h -> h.movable(0, 5000), OUTSIDE);
        FURNISHED.refuses("book of 5000", h -> h.book(0, 5000), OUTSIDE);
        FURNISHED.refuses("book of 0", h -> h.book(0, 0), OUTSIDE);
        AlmanacHouse h = FURNISHED.house();
        Check.same("birthday in 0", h.birthday(0, 365 + 5, 0), 5);
        Check.same("feastDay in 0", h.feastDay(2, 0), 39);
        Check.same("moved in 0", h.moved(2, 0), 0);
        Check.same("movable in 0", h.movable(0, 0), 39);
    }

    /** In each calendar: MONTH 0 and the one behind the last are none, and so of days, in its first year within the range. */
    private static void monthsAndDays() {
        int[] year = {1, 1, 3, 2, 3, 1, 1, 1};
        for (int c = 0; c <= 7; c++) {
            AlmanacHouse h = FURNISHED.house();
            int y = year[c];
            int many = h.months(c, y);
            Check.same("the first month of " + c, h.monthLength(c, y, 1) > 0 ? 1 : 0, 1);
            Check.same("the last month of " + c, h.monthLength(c, y, many) > 0 ? 1 : 0, 1);
            for (int month : new int[] {0, many + 1, -1, Integer.MIN_VALUE, Integer.MAX_VALUE}) {
                int calendar = c;
                FURNISHED.refuses("month " + month + " of " + c, g -> g.monthLength(calendar, y, month), NONE);
                FURNISHED.refuses("a day of month " + month + " of " + c, g -> g.toDay(calendar, y, month, 1), NONE);
                FURNISHED.refuses("page of month " + month + " of " + c, g -> g.page(0, calendar, y, month), NONE);
            }
            for (int month : new int[] {1, many}) {
                daysOf(c, y, month);
            }
        }
    }

    private static void daysOf(int c, int year, int month) {
        AlmanacHouse h = FURNISHED.house();
        int days = h.monthLength(c, year, month);
        int first = h.toDay(c, year, month, 1);
        Check.same("the first day of month " + month + " of " + c, first >= 0 ? 1 : 0, 1);
        Check.same("its last day", h.toDay(c, year, month, days), first + days - 1);
        for (int day : new int[] {0, days + 1, -1, Integer.MIN_VALUE, Integer.MAX_VALUE}) {
            FURNISHED.refuses("day " + day + " of month " + month + " of " + c, g -> g.toDay(c, year, month, day), NONE);
        }
    }

    /** "day follows day, MONTH MONTH, YEAR YEAR". */
    private static void oneBehindTheOther() {
        for (int c = 0; c <= 6; c++) {
            for (int year = 1; year <= 40; year++) {
                AlmanacHouse h = new AlmanacHouse();
                int many = h.months(c, year);
                int next = h.toDay(c, year, 1, 1);
                for (int month = 1; month <= many; month++) {
                    Check.same("month " + month + " of " + year + " of " + c, h.toDay(c, year, month, 1), next);
                    next += h.monthLength(c, year, month);
                }
                Check.same("year " + (year + 1) + " of " + c, h.toDay(c, year + 1, 1, 1), next);
            }
        }
    }

    private static void leapYears() {
        AlmanacHouse h = new AlmanacHouse();
        int[] years = {0, 1, 3, 4, 5, 96, 100, 104, 200, 300, 399, 400, 1900, 2000, 4000, 4100, 4900, 4996, 5000};
        int[] ofZero = {29, 28, 28, 29, 28, 29, 28, 29, 28, 28, 28, 29, 28, 29, 29, 28, 28, 29, 28};
        int[] ofOne = {29, 28, 28, 29, 28, 29, 29, 29, 29, 29, 28, 29, 29, 29, 29, 29, 29, 29, 29};
        for (int i = 0; i < years.length; i++) {
            Check.same("second month of " + years[i] + " of 0", h.monthLength(0, years[i], 2), ofZero[i]);
            Check.same("second month of " + years[i] + " of 1", h.monthLength(1, years[i], 2), ofOne[i]);
        }
        Check.same("the day ahead of 1 3 0 of 0", h.toDay(0, 0, 2, 29), OUTSIDE);
        Check.same("and 1 1 0", h.toDay(0, 0, 1, 1), OUTSIDE);
        Check.same("no 30 2 0", h.toDay(0, 0, 2, 30), NONE);
        Check.same("the day ahead of 3 3 0 of 1", h.toDay(1, 0, 3, 2), OUTSIDE);
        Check.same("day 306 is 1 1 1 of 0", h.toDay(0, 1, 1, 1), 306);
        Check.same("day 305 is 31 12 0 of 0", h.fromDay(0, 305, 2), 31);
        int[] lengths = {31, 28, 31, 30, 31, 30, 31, 31, 30, 31, 30, 31};
        for (int month = 1; month <= 12; month++) {
            Check.same("month " + month + " of 0", h.monthLength(0, 4999, month), lengths[month - 1]);
            Check.same("month " + month + " of 1", h.monthLength(1, 4999, month), lengths[month - 1]);
        }
    }

    private static void thirteenMonths() {
        AlmanacHouse h = new AlmanacHouse();
        for (int year : new int[] {1, 2, 3, 4, 5, 6, 7, 8, 4998, 4999, 5000}) {
            Check.same("last month of " + year + " of 2", h.monthLength(2, year, 13), year % 4 == 3 ? 6 : 5);
            Check.same("the one ahead of it", h.monthLength(2, year, 12), 30);
        }
        Check.same("the sixth day", h.toDay(2, 3, 13, 6), 3 * 365);
        Check.same("and year 4", h.toDay(2, 4, 1, 1), 3 * 365 + 1);
    }

    private static void tabledMoons() {
        AlmanacHouse h = new AlmanacHouse();
        String longYears = " 2 5 7 10 13 16 18 21 24 26 29 ";
        for (int year = 1; year <= 60; year++) {
            boolean isLong = longYears.contains(" " + year % 30 + " ");
            Check.same("last month of " + year + " of 3", h.monthLength(3, year, 12), isLong ? 30 : 29);
            Check.same("first month of " + year + " of 3", h.monthLength(3, year, 1), 30);
            Check.same("second month of " + year + " of 3", h.monthLength(3, year, 2), 29);
        }
        Check.same("30 years", h.toDay(3, 31, 1, 1), 30 * 354 + 11);
    }

    /** Each length that a year of calendar 4 can have, with its months one by one. */
    private static void countedMoons() {
        AlmanacHouse h = new AlmanacHouse();
        int[][] months = {
            {353, 30, 29, 29, 29, 30, 29, 30, 29, 30, 29, 30, 29},
            {354, 30, 29, 30, 29, 30, 29, 30, 29, 30, 29, 30, 29},
            {355, 30, 30, 30, 29, 30, 29, 30, 29, 30, 29, 30, 29},
            {383, 30, 29, 29, 29, 30, 30, 29, 30, 29, 30, 29, 30, 29},
            {384, 30, 29, 30, 29, 30, 30, 29, 30, 29, 30, 29, 30, 29},
            {385, 30, 30, 30, 29, 30, 30, 29, 30, 29, 30, 29, 30, 29}};
        for (int[] due : months) {
            int year = 1;
            while (year < 400 && new AlmanacHouse().yearLength(4, year) != due[0]) {
                year++;
            }
            Check.same("there is a year of " + due[0], h.yearLength(4, year), due[0]);
            Check.same("its months", h.months(4, year), due.length - 1);
            Check.same("it is long or not", (7 * year + 1) % 19 < 7 ? 13 : 12, due.length - 1);
            for (int month = 1; month < due.length; month++) {
                Check.same("month " + month + " of a year of " + due[0], h.monthLength(4, year, month), due[month]);
            }
        }
        Check.same("YEAR 1 on day 0", h.toDay(4, 1, 1, 1), 0);
        Check.same("no YEAR 0", h.months(4, 0), NONE);
    }

    /** E(y), in the document's words. */
    private static long counted(long y) {
        long m = (235 * y - 234) / 19;
        long days = 29 * m + (12084 + 13753 * m) / 25920;
        return 3 * (days + 1) % 7 < 3 ? days + 1 : days;
    }

    /** "K(y) is 2 if E(y + 1) - E(y) is 356, else 1 if y is above 1 and E(y) - E(y - 1) is 382, else 0." */
    private static void countedBeginnings() {
        int[] met = {0, 0, 0};
        for (int year = 1; year <= 4107; year++) {
            int k = 0;
            if (counted(year + 1) - counted(year) == 356) {
                k = 2;
            } else if (year > 1 && counted(year) - counted(year - 1) == 382) {
                k = 1;
            }
            met[k]++;
            Check.same("YEAR " + year + " of 4 begins", new AlmanacHouse().toDay(4, year, 1, 1), counted(year) + k);
        }
        for (int k = 0; k <= 2; k++) {
            Check.same("there are years of K " + k, met[k] > 0 ? 1 : 0, 1);
        }
    }

    /**
     * The week of the first Thursday is 1, so the fourth of the first month is in it and the 28th of the
     * last one in the last. 53 Thursdays has a year that begins with one, or a LEAP one that ends so.
     */
    private static void weeks() {
        for (int year = 1; year <= 410; year++) {
            AlmanacHouse h = new AlmanacHouse();
            int weekday = h.toDay(0, year, 1, 1) % 7;
            boolean leap = year % 4 == 0 && year % 100 != 0 || year % 400 == 0;
            int weeks = weekday == 3 || leap && weekday == 2 ? 53 : 52;
            Check.same("weeks of " + year, h.months(5, year), weeks);
            Check.same("days of them", h.yearLength(5, year), 7 * weeks);
            Check.same("the fourth day of " + year, h.fromDay(5, h.toDay(0, year, 1, 4), 1), 1);
            Check.same("of its own year", h.fromDay(5, h.toDay(0, year, 1, 4), 0), year);
            Check.same("the 28th of the last month", h.fromDay(5, h.toDay(0, year, 12, 28), 1), weeks);
            int ofFirst = h.fromDay(5, h.toDay(0, year, 1, 1), 0);
            Check.same("1 1 " + year + " may be of the year before", ofFirst, weekday <= 3 ? year : year - 1);
            Check.same("each week from Monday on", h.toDay(5, year, 1, 1) % 7, 0);
        }
        AlmanacHouse h = new AlmanacHouse();
        Check.same("the week ahead of day 0", h.toDay(5, 0, 9, 7), OUTSIDE);
        Check.same("week 53 of 0", h.monthLength(5, 0, 53), 7);
        Check.same("no week 54", h.monthLength(5, 0, 54), NONE);
    }

    private static void round() {
        AlmanacHouse h = new AlmanacHouse();
        Check.same("NAME 19", h.fromDay(6, 12, 3), 19);
        Check.same("then NAME 0", h.fromDay(6, 13, 3), 0);
        Check.same("COUNT 13", h.fromDay(6, 9, 4), 13);
        Check.same("then COUNT 1", h.fromDay(6, 10, 4), 1);
        Check.same("NAME of the last day", h.fromDay(6, LAST, 3), 7);
        Check.same("COUNT of the last day", h.fromDay(6, LAST, 4), (LAST + 3) % 13 + 1);
        Check.same("day 20 of month 18", h.toDay(6, 0, 18, 20), 359);
        Check.same("then year 1", h.fromDay(6, 360, 0), 1);
        Check.same("month 1", h.fromDay(6, 360, 1), 1);
        Check.same("day 1", h.fromDay(6, 360, 2), 1);
    }

    /** Ten ROWS a YEAR: the tenth and the eleventh, the first day and the last of all. */
    private static void rows() {
        AlmanacHouse h = FURNISHED.house();
        Check.same("year of the tenth row", h.fromDay(7, 399, 0), 1);
        Check.same("its month", h.fromDay(7, 399, 1), 10);
        Check.same("year of the eleventh", h.fromDay(7, 400, 0), 2);
        Check.same("its month", h.fromDay(7, 400, 1), 1);
        Check.same("months of the last year", h.months(7, 2), 2);
        Check.same("days of the last year", h.yearLength(7, 2), 60);
        Check.same("the first day of ten", h.fromDay(7, 100, 3), 0);
        Check.same("the tenth", h.fromDay(7, 109, 3), 9);
        Check.same("and again", h.fromDay(7, 110, 3), 0);
        Check.same("the last day of all", h.fromDay(7, 459, 2), 30);
        FURNISHED.refuses("the day ahead of all", g -> g.fromDay(7, 99, 0), NONE);
        FURNISHED.refuses("the day behind all", g -> g.fromDay(7, 460, 0), NONE);
        Scenes.empty().refuses("no ROW at all", g -> g.fromDay(7, 0, 0), NONE);
        Scenes.empty().refuses("no YEAR without a ROW", g -> g.yearLength(7, 1), NONE);
        AlmanacHouse g = new AlmanacHouse();
        g.row(3, 200);
        Check.same("the first day of ten, from day 3 on", g.fromDay(7, 3, 3), 0);
        Check.same("the tenth", g.fromDay(7, 12, 3), 9);
        Check.same("and again", g.fromDay(7, 13, 3), 0);
        Check.same("one ROW is a YEAR", g.months(7, 1), 1);
        Check.same("of its days", g.yearLength(7, 1), 200);
        Check.same("and no more", g.months(7, 2), NONE);
    }

    /** "of several the first one that the call names". */
    private static void firstRefusal() {
        FURNISHED.refuses("toDay: BAD, not NONE", h -> h.toDay(8, -1, 0, 0), BAD);
        FURNISHED.refuses("toDay: NONE, not OUTSIDE", h -> h.toDay(0, 5000, 2, 29), NONE);
        FURNISHED.refuses("toDay: NONE ahead of day 0", h -> h.toDay(0, 0, 1, 32), NONE);
        FURNISHED.refuses("fromDay: what -1", h -> h.fromDay(0, 5, -1), BAD);
        FURNISHED.refuses("fromDay: what 5", h -> h.fromDay(0, 5, 5), BAD);
        FURNISHED.refuses("fromDay: what, not OUTSIDE", h -> h.fromDay(0, -1, 5), BAD);
        FURNISHED.refuses("fromDay: calendar, not OUTSIDE", h -> h.fromDay(8, LAST + 1, 0), BAD);
        FURNISHED.refuses("fromDay: what, not NONE", h -> h.fromDay(7, 5, 5), BAD);
        FURNISHED.refuses("fromDay: OUTSIDE, not NONE", h -> h.fromDay(7, -1, 0), OUTSIDE);
        FURNISHED.refuses("fromDay: NONE for each part", h -> h.fromDay(7, 5, 4), NONE);
        FURNISHED.refuses("monthLength: BAD, not NONE", h -> h.monthLength(-1, -1, 0), BAD);
        FURNISHED.refuses("yearLength: BAD, not NONE", h -> h.yearLength(8, 5001), BAD);
        FURNISHED.refuses("months: BAD, not NONE", h -> h.months(8, -1), BAD);
        Check.same("fromDay: what 0", FURNISHED.house().fromDay(0, 5, 0), 0);
        Check.same("fromDay: what 4", FURNISHED.house().fromDay(0, 5, 4), 0);
    }
}
