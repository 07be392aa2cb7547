/** Promises 7 to 10: how far may be added, what is not there, and where counting up ends. */
public final class AddedEdgesTest {
    private static final int BAD = AlmanacHouse.BAD, NONE = AlmanacHouse.NONE, OUTSIDE = AlmanacHouse.OUTSIDE,
            LAST = Scenes.LAST;
    private static final int[] NO_CALENDARS = {-1, 8, Integer.MIN_VALUE, Integer.MAX_VALUE};
    /** Rows from day 100 on, 30 days each: ten in year 1 and two in year 2. */
    private static final Scene FURNISHED = Scenes.furnished();

    public static void main(String[] args) {
        howManyMonths();
        howManyYears();
        monthsNotThere();
        yearsNotThere();
        lastOnes();
        addedInTheTown();
        addingRefusals();
        differenceTaken();
        differenceCounts();
        differenceToTheEnd();
        differenceInTheTown();
        differenceRefusals();
        birthdayTaken();
        birthdayInRange();
        birthdayOfTwo();
        birthdayRefusals();
        Check.done();
    }

    /** "k MONTHS (-60000 .. 60000)": by weeks both ends lie within the range. */
    private static void howManyMonths() {
        AlmanacHouse h = new AlmanacHouse();
        Check.same("60000 weeks", h.addMonths(5, 0, 60000), 420000);
        Check.same("-60000 weeks", h.addMonths(5, 420000, -60000), 0);
        Check.same("59999 weeks", h.addMonths(5, 0, 59999), 419993);
        Check.same("60000 months of 6", h.addMonths(6, 0, 60000), 1200000);
        Check.same("-60000 months of 6", h.addMonths(6, LAST, -60000), 300000);
        for (int k : new int[] {60001, -60001, Integer.MAX_VALUE, Integer.MIN_VALUE}) {
            FURNISHED.refuses(k + " months", g -> g.addMonths(5, 700000, k), BAD);
        }
        for (int c = 0; c <= 4; c++) {
            int calendar = c;
            FURNISHED.refuses("60000 months of " + c, g -> g.addMonths(calendar, 0, 60000), OUTSIDE);
            FURNISHED.refuses("-60000 months of " + c, g -> g.addMonths(calendar, LAST, -60000), OUTSIDE);
        }
    }

    /** "k YEARS (-5000 .. 5000)": no calendar has so many within the range, so the ends are OUTSIDE, not BAD. */
    private static void howManyYears() {
        for (int c = 0; c <= 6; c++) {
            int calendar = c;
            FURNISHED.refuses("5000 years of " + c, h -> h.addYears(calendar, 0, 5000), OUTSIDE);
            FURNISHED.refuses("-5000 years of " + c, h -> h.addYears(calendar, LAST, -5000), OUTSIDE);
            for (int k : new int[] {5001, -5001, Integer.MAX_VALUE, Integer.MIN_VALUE}) {
                FURNISHED.refuses(k + " years of " + c, h -> h.addYears(calendar, 700000, k), BAD);
            }
        }
        AlmanacHouse h = new AlmanacHouse();
        Check.same("as far as can be", h.addYears(6, 0, 4166), 1499760);
        Check.same("and back", h.addYears(6, 1499760, -4166), 0);
        Check.same("a year more", h.addYears(6, 0, 4167), OUTSIDE);
        Check.same("a day and 4166 years, still there", h.addYears(6, 240, 4166), LAST);
        Check.same("a day more", h.addYears(6, 241, 4166), OUTSIDE);
    }

    /** "OUTSIDE: a YEAR, a MONTH that is not there, what comes". */
    private static void monthsNotThere() {
        FURNISHED.refuses("there, but ahead of day 0", h -> h.addMonths(0, 0, -1), OUTSIDE);
        FURNISHED.refuses("the first month of year 0", h -> h.addMonths(0, 0, -2), OUTSIDE);
        FURNISHED.refuses("ahead of year 0", h -> h.addMonths(0, 0, -3), OUTSIDE);
        FURNISHED.refuses("ahead of year 1 of 2", h -> h.addMonths(2, 29, -1), OUTSIDE);
        FURNISHED.refuses("ahead of year 1 of 4", h -> h.addMonths(4, 29, -1), OUTSIDE);
        FURNISHED.refuses("ahead of year 0 of 6", h -> h.addMonths(6, 19, -1), OUTSIDE);
        FURNISHED.refuses("behind the last day", h -> h.addMonths(0, LAST, 1), OUTSIDE);
        FURNISHED.refuses("behind the last day by one", h -> h.addMonths(5, LAST - 6, 1), OUTSIDE);
        FURNISHED.refuses("behind year 5000", h -> h.addMonths(0, LAST, 60000), OUTSIDE);
        FURNISHED.refuses("in year 5000", h -> h.addMonths(0, LAST, 12 * 893), OUTSIDE);
        AlmanacHouse h = new AlmanacHouse();
        Check.same("to the last day", h.addMonths(5, LAST - 7, 1), LAST);
        Check.same("to day 0 of 5", h.addMonths(5, 7, -1), 0);
        Check.same("to day 0 of 0", h.addMonths(0, 31, -1), 0);
        Check.same("to day 0 of 2", h.addMonths(2, 30, -1), 0);
        Check.same("to day 0 of 1, the third of its month", h.addMonths(1, 31, -1), 0);
        Check.same("to the second of it", h.addMonths(1, 30, -1), OUTSIDE);
    }

    private static void yearsNotThere() {
        FURNISHED.refuses("there, but ahead of day 0", h -> h.addYears(0, 306, -1), OUTSIDE);
        FURNISHED.refuses("the day ahead of day 0", h -> h.addYears(0, 364, -1), OUTSIDE);
        FURNISHED.refuses("ahead of year 0", h -> h.addYears(0, 0, -1), OUTSIDE);
        FURNISHED.refuses("ahead of year 1 of 2", h -> h.addYears(2, 364, -1), OUTSIDE);
        FURNISHED.refuses("behind the last day", h -> h.addYears(0, LAST - 364, 1), OUTSIDE);
        FURNISHED.refuses("year 5000", h -> h.addYears(0, LAST, 893), OUTSIDE);
        FURNISHED.refuses("year 5001", h -> h.addYears(0, LAST, 894), OUTSIDE);
        AlmanacHouse h = new AlmanacHouse();
        Check.same("to day 0 of 0", h.addYears(0, 365, -1), 0);
        Check.same("to day 0 of 2", h.addYears(2, 365, -1), 0);
        Check.same("to the last day", h.addYears(0, LAST - 365, 1), LAST);
    }

    /** "if that has not so many MONTHS, its last one; if that has not so many days, its last one". */
    private static void lastOnes() {
        AlmanacHouse h = new AlmanacHouse();
        int leapDay = h.toDay(0, 2000, 2, 29);
        Check.same("29 2 and a year", h.addYears(0, leapDay, 1), h.toDay(0, 2001, 2, 28));
        Check.same("28 2 and a year", h.addYears(0, leapDay - 1, 1), h.toDay(0, 2001, 2, 28));
        Check.same("29 2 and four", h.addYears(0, leapDay, 4), h.toDay(0, 2004, 2, 29));
        Check.same("29 2 and 100", h.addYears(0, leapDay, 100), h.toDay(0, 2100, 2, 28));
        Check.same("31 1 and a month", h.addMonths(0, h.toDay(0, 2001, 1, 31), 1), h.toDay(0, 2001, 2, 28));
        Check.same("28 1 and a month", h.addMonths(0, h.toDay(0, 2001, 1, 28), 1), h.toDay(0, 2001, 2, 28));
        Check.same("31 3 less a month", h.addMonths(0, h.toDay(0, 2000, 3, 31), -1), leapDay);
        Check.same("31 12 and two", h.addMonths(0, h.toDay(0, 2000, 12, 31), 2), h.toDay(0, 2001, 2, 28));
        Check.same("31 1 less a month", h.addMonths(0, h.toDay(0, 2001, 1, 31), -1), h.toDay(0, 2000, 12, 31));
        Check.same("week 53, none in the next", h.addYears(5, h.toDay(5, 0, 53, 3), 1), h.toDay(5, 1, 52, 3));
        Check.same("week 52 stays", h.addYears(5, h.toDay(5, 0, 52, 3), 1), h.toDay(5, 1, 52, 3));
        Check.same("month 13 of a long year", h.addYears(4, h.toDay(4, 3, 13, 1), 1), h.toDay(4, 4, 12, 1));
        Check.same("month 13 to another long one", h.addYears(4, h.toDay(4, 3, 13, 1), 3), h.toDay(4, 6, 13, 1));
        Check.same("the sixth day of 2", h.addYears(2, h.toDay(2, 3, 13, 6), 1), h.toDay(2, 4, 13, 5));
        Check.same("and back to one", h.addYears(2, h.toDay(2, 4, 13, 5), -1), h.toDay(2, 3, 13, 5));
    }

    private static void addedInTheTown() {
        AlmanacHouse h = FURNISHED.house();
        Check.same("to the last row", h.addMonths(7, 100, 11), 430);
        Check.same("to the first", h.addMonths(7, 459, -11), 129);
        Check.same("year 2 has two months", h.addYears(7, 399, 1), 459);
        Check.same("the second of them", h.addYears(7, 130, 1), 430);
        Check.same("and back", h.addYears(7, 430, -1), 130);
        FURNISHED.refuses("no row behind", g -> g.addMonths(7, 459, 1), OUTSIDE);
        FURNISHED.refuses("no row ahead", g -> g.addMonths(7, 100, -1), OUTSIDE);
        FURNISHED.refuses("60000 rows on", g -> g.addMonths(7, 100, 60000), OUTSIDE);
        FURNISHED.refuses("no year 3", g -> g.addYears(7, 430, 1), OUTSIDE);
        FURNISHED.refuses("no year 0", g -> g.addYears(7, 130, -1), OUTSIDE);
        AlmanacHouse g = new AlmanacHouse();
        g.row(5, 200);
        g.row(205, 1);
        Check.same("the 200th day to a row of one", g.addMonths(7, 204, 1), 205);
        Check.same("and its only day back", g.addMonths(7, 205, -1), 5);
    }

    private static void addingRefusals() {
        for (int c : NO_CALENDARS) {
            FURNISHED.refuses("addMonths of calendar " + c, h -> h.addMonths(c, 5, 1), BAD);
            FURNISHED.refuses("addYears of calendar " + c, h -> h.addYears(c, 5, 1), BAD);
        }
        FURNISHED.refuses("addMonths: calendar, not OUTSIDE", h -> h.addMonths(8, -1, 1), BAD);
        FURNISHED.refuses("addMonths: k, not OUTSIDE", h -> h.addMonths(0, -1, 60001), BAD);
        FURNISHED.refuses("addMonths: k, not NONE", h -> h.addMonths(7, 5, -60001), BAD);
        FURNISHED.refuses("addMonths: OUTSIDE, not NONE", h -> h.addMonths(7, -1, 1), OUTSIDE);
        FURNISHED.refuses("addMonths: NONE, not OUTSIDE", h -> h.addMonths(7, 99, 60000), NONE);
        FURNISHED.refuses("addMonths: NONE behind the rows", h -> h.addMonths(7, 460, -1), NONE);
        FURNISHED.refuses("addYears: calendar, not OUTSIDE", h -> h.addYears(8, -1, 1), BAD);
        FURNISHED.refuses("addYears: k, not OUTSIDE", h -> h.addYears(0, LAST + 1, 5001), BAD);
        FURNISHED.refuses("addYears: k, not NONE", h -> h.addYears(7, 5, 5001), BAD);
        FURNISHED.refuses("addYears: OUTSIDE, not NONE", h -> h.addYears(7, LAST + 1, 1), OUTSIDE);
        FURNISHED.refuses("addYears: NONE, not OUTSIDE", h -> h.addYears(7, 460, 5000), NONE);
        Scenes.empty().refuses("addMonths without a row", h -> h.addMonths(7, 0, 0), NONE);
        Scenes.empty().refuses("addYears without a row", h -> h.addYears(7, 0, 0), NONE);
    }

    private static void same(String what, int calendar, int a, int b, int years, int months, int days) {
        AlmanacHouse h = FURNISHED.house();
        Check.same(what + ": years", h.difference(calendar, a, b, 0), years);
        Check.same(what + ": months", h.difference(calendar, a, b, 1), months);
        Check.same(what + ": days", h.difference(calendar, a, b, 2), days);
    }

    private static void differenceTaken() {
        for (int c = 0; c <= 6; c++) {
            same("the same day of " + c, c, 12345, 12345, 0, 0, 0);
            same("day 0 twice", c, 0, 0, 0, 0, 0);
            same("the last day twice", c, LAST, LAST, 0, 0, 0);
            same("a day", c, LAST - 1, LAST, 0, 0, 1);
        }
    }

    /** On the very day a YEAR or MONTH counts, a day ahead of it does not. */
    private static void differenceCounts() {
        AlmanacHouse h = new AlmanacHouse();
        int may = h.toDay(0, 2001, 5, 17);
        same("a year to the day", 0, may, h.toDay(0, 2002, 5, 17), 1, 0, 0);
        same("a day less", 0, may, h.toDay(0, 2002, 5, 16), 0, 11, 29);
        same("a month to the day", 0, may, h.toDay(0, 2001, 6, 17), 0, 1, 0);
        same("a day less", 0, may, h.toDay(0, 2001, 6, 16), 0, 0, 30);
        int leapDay = h.toDay(0, 2000, 2, 29);
        same("29 2 to 28 2", 0, leapDay, h.toDay(0, 2001, 2, 28), 1, 0, 0);
        same("29 2 to 27 2", 0, leapDay, h.toDay(0, 2001, 2, 27), 0, 11, 29);
        same("months from what comes of the years", 0, leapDay, h.toDay(0, 2001, 3, 28), 1, 1, 0);
        same("29 2 four years on", 0, leapDay, h.toDay(0, 2004, 2, 28), 3, 12, 0);
        same("31 1 to 28 2", 0, h.toDay(0, 2001, 1, 31), h.toDay(0, 2001, 2, 28), 0, 1, 0);
        same("weeks", 5, h.toDay(5, 2001, 1, 1), h.toDay(5, 2002, 1, 1) - 1, 0, h.months(5, 2001) - 1, 6);
    }

    /** What is added and comes OUTSIDE ends the counting, too. */
    private static void differenceToTheEnd() {
        same("all days of 0", 0, 0, LAST, 4106, 10, 9);
        same("all days of 6", 6, 0, LAST, 4166, 12, 0);
        same("all days of 2", 2, 0, LAST, 4106, 9, 14);
        same("to the last day, no year more", 0, LAST - 365, LAST, 1, 0, 0);
        same("a day less than a year", 0, LAST - 364, LAST, 0, 11, 30);
        same("a month ahead of the end", 5, LAST - 7, LAST, 0, 1, 0);
        same("and less", 5, LAST - 6, LAST, 0, 0, 6);
    }

    private static void differenceInTheTown() {
        same("within the rows", 7, 100, 459, 1, 1, 29);
        same("to the day behind them", 7, 100, 460, 1, 1, 30);
        same("to the last day of all", 7, 100, LAST, 1, 1, LAST - 430);
        same("from the last row", 7, 459, LAST, 0, 0, LAST - 459);
        same("year 2 has two months only", 7, 399, 459, 1, 0, 0);
        same("a day less", 7, 399, 458, 0, 1, 29);
        FURNISHED.refuses("from ahead of the rows", h -> h.difference(7, 99, 200, 0), NONE);
        FURNISHED.refuses("from behind them", h -> h.difference(7, 460, 460, 2), NONE);
    }

    private static void differenceRefusals() {
        for (int c : NO_CALENDARS) {
            FURNISHED.refuses("calendar " + c, h -> h.difference(c, 5, 6, 0), BAD);
        }
        for (int what : new int[] {-1, 3, Integer.MIN_VALUE, Integer.MAX_VALUE}) {
            FURNISHED.refuses("what " + what, h -> h.difference(0, 5, 6, what), BAD);
        }
        FURNISHED.refuses("b is less", h -> h.difference(0, 6, 5, 0), BAD);
        FURNISHED.refuses("b is less, as far as can be",
                h -> h.difference(0, Integer.MAX_VALUE, Integer.MIN_VALUE, 0), BAD);
        FURNISHED.refuses("as far the other way", h -> h.difference(0, Integer.MIN_VALUE, Integer.MAX_VALUE, 0), OUTSIDE);
        FURNISHED.refuses("calendar, not OUTSIDE", h -> h.difference(8, -1, LAST + 1, 0), BAD);
        FURNISHED.refuses("what, not OUTSIDE", h -> h.difference(0, -1, 5, 3), BAD);
        FURNISHED.refuses("b is less, not OUTSIDE", h -> h.difference(0, -1, -2, 0), BAD);
        FURNISHED.refuses("b is less and beyond, not OUTSIDE", h -> h.difference(0, LAST + 2, LAST + 1, 0), BAD);
        FURNISHED.refuses("b is less, not NONE", h -> h.difference(7, 6, 5, 0), BAD);
        FURNISHED.refuses("a is no day", h -> h.difference(0, -1, 5, 0), OUTSIDE);
        FURNISHED.refuses("b is no day", h -> h.difference(0, 5, LAST + 1, 0), OUTSIDE);
        FURNISHED.refuses("a is no day, not NONE", h -> h.difference(7, -1, 5, 0), OUTSIDE);
        FURNISHED.refuses("b is no day, not NONE", h -> h.difference(7, 5, LAST + 1, 0), OUTSIDE);
    }

    /** Calendars 0 to 6, the first and the last day of a year, and years ahead of the day's own and behind it. */
    private static void birthdayTaken() {
        for (int c = 0; c <= 6; c++) {
            AlmanacHouse h = new AlmanacHouse();
            Check.same("in its own year, by " + c, h.birthday(c, 700123, h.fromDay(0, 700123, 0)), 700123);
        }
        AlmanacHouse h = new AlmanacHouse();
        int first = h.toDay(0, 2001, 1, 1);
        int last = h.toDay(0, 2001, 12, 31);
        Check.same("1 1, a year on", h.birthday(0, first, 2002), h.toDay(0, 2002, 1, 1));
        Check.same("31 12, a year on", h.birthday(0, last, 2002), h.toDay(0, 2002, 12, 31));
        Check.same("1 1, a year back", h.birthday(0, first, 2000), h.toDay(0, 2000, 1, 1));
        Check.same("31 12, a year back", h.birthday(0, last, 2000), h.toDay(0, 2000, 12, 31));
        Check.same("29 2 in another year", h.birthday(0, h.toDay(0, 2000, 2, 29), 2100), h.toDay(0, 2100, 2, 28));
        Check.same("as far back as can be", h.birthday(0, LAST, 1), h.toDay(0, 1, 1, 10));
        Check.same("as far on as can be", h.birthday(0, 0, 4106), h.toDay(0, 4106, 3, 1));
    }

    private static void birthdayInRange() {
        AlmanacHouse h = new AlmanacHouse();
        Check.same("on day 0", h.birthday(0, h.toDay(0, 5, 3, 1), 0), 0);
        Check.same("on the last day", h.birthday(0, h.toDay(0, 5, 1, 10), 4107), LAST);
        int february = h.toDay(0, 4, 2, 29);
        FURNISHED.refuses("ahead of day 0", g -> g.birthday(0, february, 0), NONE);
        int january = h.toDay(0, 5, 1, 11);
        FURNISHED.refuses("behind the last day", g -> g.birthday(0, january, 4107), NONE);
        FURNISHED.refuses("a year behind all days", g -> g.birthday(0, 5, 4108), NONE);
        FURNISHED.refuses("year 5000", g -> g.birthday(6, 5, 5000), NONE);
        FURNISHED.refuses("1 3 in the last year", g -> g.birthday(0, 0, 4107), NONE);
    }

    /** A year of 360 days has some birthdays twice in a year of 365, and one of 384 days has none in some years. */
    private static void birthdayOfTwo() {
        AlmanacHouse h = new AlmanacHouse();
        for (int day = 1; day <= 7; day++) {
            int n = h.toDay(0, 2001, 1, day);
            Check.same("the first of two, day " + day, h.birthday(6, n + 360, 2001), n);
        }
        int first = h.toDay(0, 2002, 1, 1);
        Check.same("once only", h.birthday(6, first - 1, 2002), first + 359);
        int skipped = 0;
        for (int year = 2000; year < 2040; year++) {
            AlmanacHouse g = new AlmanacHouse();
            int n = g.birthday(4, 0, year);
            skipped += n == NONE ? 1 : 0;
            Check.same("first day of a year of 4 in " + year, n == NONE ? 1 : g.fromDay(4, n, 1), 1);
        }
        int years = h.fromDay(4, h.toDay(0, 2039, 12, 31), 0) - h.fromDay(4, h.toDay(0, 1999, 12, 31), 0);
        Check.same("each year of 4 is met once", 40 - skipped, years);
    }

    private static void birthdayRefusals() {
        for (int c : new int[] {7, 8, -1, Integer.MIN_VALUE, Integer.MAX_VALUE}) {
            FURNISHED.refuses("birthday by " + c, h -> h.birthday(c, 130, 0), BAD);
        }
        FURNISHED.refuses("birthday: BAD, not NONE", h -> h.birthday(7, 130, 5001), BAD);
        FURNISHED.refuses("birthday: BAD, not OUTSIDE", h -> h.birthday(8, -1, 5), BAD);
        FURNISHED.refuses("birthday: NONE, not OUTSIDE", h -> h.birthday(0, -1, 5001), NONE);
        FURNISHED.refuses("birthday: NONE below, not OUTSIDE", h -> h.birthday(0, LAST + 1, -1), NONE);
        FURNISHED.refuses("birthday: OUTSIDE, not NONE", h -> h.birthday(0, -1, 4108), OUTSIDE);
        FURNISHED.refuses("birthday: OUTSIDE, not NONE, behind", h -> h.birthday(0, LAST + 1, 5000), OUTSIDE);
    }
}
