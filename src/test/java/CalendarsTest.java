/** Promises 2 to 10: dates, lengths, what is added, and what lies between. */
public final class CalendarsTest {
    private static final int BAD = AlmanacHouse.BAD, NONE = AlmanacHouse.NONE, OUTSIDE = AlmanacHouse.OUTSIDE;

    public static void main(String[] args) {
        toDay();
        fromDay();
        lengths();
        addMonths();
        addYears();
        difference();
        birthday();
        Check.done();
    }

    private static void toDay() {
        AlmanacHouse h = new AlmanacHouse();
        Check.same("1 3 0 of 0", h.toDay(0, 0, 3, 1), 0);
        Check.same("the day ahead of it", h.toDay(0, 0, 2, 29), OUTSIDE);
        Check.same("3 3 0 of 1", h.toDay(1, 0, 3, 3), 0);
        Check.same("1 1 1 of 2", h.toDay(2, 1, 1, 1), 0);
        Check.same("1 1 1 of 3", h.toDay(3, 1, 1, 1), 0);
        Check.same("1 1 1 of 4", h.toDay(4, 1, 1, 1), 0);
        Check.same("week 10 of 0", h.toDay(5, 0, 10, 1), 0);
        Check.same("1 1 0 of 6", h.toDay(6, 0, 1, 1), 0);
        Check.same("the last day", h.toDay(0, 4107, 1, 10), 1500000);
        Check.same("the day behind it", h.toDay(0, 4107, 1, 11), OUTSIDE);
        Check.same("no leap day in 2100", h.toDay(0, 2100, 2, 29), NONE);
        Check.same("a leap day in 2000", h.toDay(0, 2000, 2, 29), h.toDay(0, 2000, 3, 1) - 1);
        Check.same("not there and outside: not there", h.toDay(0, 5000, 2, 30), NONE);
        Check.same("there and outside", h.toDay(0, 5000, 2, 28), OUTSIDE);
        Check.same("year 5001", h.toDay(0, 5001, 1, 1), NONE);
        Check.same("year -1", h.toDay(0, -1, 1, 1), NONE);
        Check.same("year 0 of a calendar from 1 on", h.toDay(4, 0, 1, 1), NONE);
        Check.same("month 0", h.toDay(6, 1, 0, 1), NONE);
        Check.same("month 19", h.toDay(6, 1, 19, 1), NONE);
        Check.same("day 0", h.toDay(6, 1, 1, 0), NONE);
        Check.same("day 21", h.toDay(6, 1, 1, 21), NONE);
        Check.same("far numbers", h.toDay(3, Integer.MAX_VALUE, Integer.MIN_VALUE, Integer.MAX_VALUE), NONE);
        Check.same("far month", h.toDay(3, 1, Integer.MAX_VALUE, 1), NONE);
        Check.same("far day", h.toDay(3, 1, 1, Integer.MAX_VALUE), NONE);
        Check.same("no calendar 8", h.toDay(8, -1, 0, 0), BAD);
        Check.same("no calendar -1", h.toDay(-1, 1, 1, 1), BAD);
        Check.same("no rows", h.toDay(7, 1, 1, 1), NONE);
    }

    private static void fromDay() {
        AlmanacHouse h = new AlmanacHouse();
        Check.same("weekday of day 0", h.fromDay(0, 0, 3), 0);
        Check.same("weekday of day 13", h.fromDay(5, 13, 3), 6);
        Check.same("count of other calendars", h.fromDay(5, 13, 4), 0);
        Check.same("name of day 0", h.fromDay(6, 0, 3), 7);
        Check.same("name of day 13", h.fromDay(6, 13, 3), 0);
        Check.same("count of day 0", h.fromDay(6, 0, 4), 4);
        Check.same("count of day 9", h.fromDay(6, 9, 4), 13);
        Check.same("count of day 10", h.fromDay(6, 10, 4), 1);
        Check.same("BAD ahead of OUTSIDE", h.fromDay(0, -1, 5), BAD);
        Check.same("what -1", h.fromDay(0, 0, -1), BAD);
        Check.same("calendar ahead of the day", h.fromDay(8, -1, 0), BAD);
        Check.same("OUTSIDE ahead of NONE", h.fromDay(7, -1, 0), OUTSIDE);
        Check.same("no row", h.fromDay(7, 5, 4), NONE);
        Check.same("too far", h.fromDay(0, 1500001, 0), OUTSIDE);
    }

    private static void lengths() {
        AlmanacHouse h = new AlmanacHouse();
        Check.same("February 1900 of 0", h.monthLength(0, 1900, 2), 28);
        Check.same("February 1900 of 1", h.monthLength(1, 1900, 2), 29);
        Check.same("last of year 3 of 2", h.monthLength(2, 3, 13), 6);
        Check.same("last of year 4 of 2", h.monthLength(2, 4, 13), 5);
        Check.same("year 29 of 3", h.yearLength(3, 29), 355);
        Check.same("year 30 of 3", h.yearLength(3, 30), 354);
        Check.same("year 32 of 3", h.monthLength(3, 32, 12), 30);
        Check.same("a long year of 4", h.months(4, 3), 13);
        Check.same("a short year of 4", h.months(4, 4), 12);
        Check.same("second month of 355 days", h.monthLength(4, 1, 2), 30);
        Check.same("weeks of a long year", h.months(5, 0), 53);
        Check.same("its days", h.yearLength(5, 0), 371);
        Check.same("a week", h.monthLength(5, 5000, 52), 7);
        Check.same("no week 53", h.monthLength(5, 5000, 53), NONE);
        Check.same("BAD month", h.monthLength(8, 0, 0), BAD);
        Check.same("BAD year", h.yearLength(-1, 0), BAD);
        Check.same("BAD months", h.months(8, 0), BAD);
        Check.same("NONE year", h.yearLength(2, 0), NONE);
        Check.same("NONE months", h.months(7, 1), NONE);
        Check.same("far year", h.months(0, Integer.MAX_VALUE), NONE);
        Check.same("far year below", h.yearLength(0, Integer.MIN_VALUE), NONE);
    }

    private static void addMonths() {
        AlmanacHouse h = new AlmanacHouse();
        int lastOfJanuary = h.toDay(0, 2024, 1, 31);
        Check.same("31 1 and a month", h.addMonths(0, lastOfJanuary, 1), h.toDay(0, 2024, 2, 29));
        Check.same("31 1 and 13", h.addMonths(0, lastOfJanuary, 13), h.toDay(0, 2025, 2, 28));
        Check.same("31 1 less 2", h.addMonths(0, lastOfJanuary, -2), h.toDay(0, 2023, 11, 30));
        Check.same("none", h.addMonths(0, lastOfJanuary, 0), lastOfJanuary);
        Check.same("the small month of 2", h.addMonths(2, h.toDay(2, 1, 12, 30), 1), h.toDay(2, 1, 13, 5));
        Check.same("over it", h.addMonths(2, h.toDay(2, 1, 12, 30), 2), h.toDay(2, 2, 1, 30));
        Check.same("over a long year of 4", h.addMonths(4, h.toDay(4, 3, 1, 1), 13), h.toDay(4, 4, 1, 1));
        Check.same("weeks are 7 days", h.addMonths(5, 700000, -60000), 280000);
        Check.same("back to the first day", h.addMonths(5, 420000, -60000), 0);
        Check.same("and a week ahead of it", h.addMonths(5, 419999, -60000), OUTSIDE);
        Check.same("no month there", h.addMonths(0, 0, -60000), OUTSIDE);
        Check.same("k too small", h.addMonths(0, -1, -60001), BAD);
        Check.same("k too great", h.addMonths(0, 0, 60001), BAD);
        Check.same("k least", h.addMonths(0, 0, Integer.MIN_VALUE), BAD);
        Check.same("no calendar", h.addMonths(8, -1, 0), BAD);
        Check.same("no day", h.addMonths(7, -1, 0), OUTSIDE);
        Check.same("no date", h.addMonths(7, 0, 0), NONE);
        Check.same("behind the last day", h.addMonths(6, 1500000, 1), OUTSIDE);
    }

    private static void addYears() {
        AlmanacHouse h = new AlmanacHouse();
        int leapDay = h.toDay(0, 2024, 2, 29);
        Check.same("29 2 and a year", h.addYears(0, leapDay, 1), h.toDay(0, 2025, 2, 28));
        Check.same("29 2 and four", h.addYears(0, leapDay, 4), h.toDay(0, 2028, 2, 29));
        Check.same("the 13th month, none in the next", h.addYears(4, h.toDay(4, 3, 13, 29), 1), h.toDay(4, 4, 12, 29));
        Check.same("week 53", h.addYears(5, h.toDay(5, 0, 53, 7), 1), h.toDay(5, 1, 52, 7));
        Check.same("ahead of the first day", h.addYears(0, 400, -2), OUTSIDE);
        Check.same("ahead of the first year", h.addYears(2, 400, -2), OUTSIDE);
        Check.same("to the first year", h.addYears(2, 400, -1), 35);
        Check.same("k 5000", h.addYears(6, 0, 5000), OUTSIDE);
        Check.same("k 5001", h.addYears(6, -1, 5001), BAD);
        Check.same("k -5001", h.addYears(6, 0, -5001), BAD);
        Check.same("no calendar", h.addYears(-1, 0, 0), BAD);
        Check.same("no day", h.addYears(0, 1500001, 0), OUTSIDE);
        Check.same("no date", h.addYears(7, 1500000, 0), NONE);
    }

    private static void difference() {
        AlmanacHouse h = new AlmanacHouse();
        int a = h.toDay(0, 2020, 2, 29);
        int b = h.toDay(0, 2023, 4, 27);
        Check.same("years", h.difference(0, a, b, 0), 3);
        Check.same("months from 28 2 on", h.difference(0, a, b, 1), 1);
        Check.same("days", h.difference(0, a, b, 2), 30);
        Check.same("a year to the day", h.difference(0, a, h.toDay(0, 2021, 2, 28), 0), 1);
        Check.same("a day less", h.difference(0, a, h.toDay(0, 2021, 2, 27), 0), 0);
        Check.same("its months", h.difference(0, a, h.toDay(0, 2021, 2, 27), 1), 11);
        Check.same("its days", h.difference(0, a, h.toDay(0, 2021, 2, 27), 2), 29);
        Check.same("weeks", h.difference(5, 0, 1000, 1), (1000 - h.addYears(5, 0, 2)) / 7);
        Check.same("none", h.difference(3, 1500000, 1500000, 0), 0);
        Check.same("b is less, and no day", h.difference(0, 0, -1, 0), BAD);
        Check.same("what 3", h.difference(0, 0, 1, 3), BAD);
        Check.same("what -1", h.difference(0, 0, 1, -1), BAD);
        Check.same("calendar", h.difference(8, 0, 1, 0), BAD);
        Check.same("a outside", h.difference(0, -1, 5, 0), OUTSIDE);
        Check.same("b outside ahead of NONE", h.difference(7, 0, 1500001, 0), OUTSIDE);
        Check.same("no date", h.difference(7, 0, 5, 0), NONE);
    }

    private static void birthday() {
        AlmanacHouse h = new AlmanacHouse();
        int leapDay = h.toDay(0, 2020, 2, 29);
        Check.same("a leap day's", h.birthday(0, leapDay, 2021), h.toDay(0, 2021, 2, 28));
        Check.same("ahead of the day", h.birthday(0, leapDay, 1900), h.toDay(0, 1900, 2, 28));
        Check.same("its own", h.birthday(0, leapDay, 2020), leapDay);
        Check.same("in January of year 0", h.birthday(0, h.toDay(0, 5, 1, 5), 0), NONE);
        Check.same("beyond the range", h.birthday(0, h.toDay(0, 5, 1, 11), 4107), NONE);
        Check.same("the last day", h.birthday(0, h.toDay(0, 5, 1, 10), 4107), 1500000);
        Check.same("no such year", h.birthday(0, -1, 5001), NONE);
        Check.same("year -1", h.birthday(0, -1, -1), NONE);
        Check.same("calendar ahead of all", h.birthday(7, -1, -1), BAD);
        Check.same("no day", h.birthday(0, -1, 5), OUTSIDE);
        twoInAYear(h);
    }

    /** A year of 360 days may end twice in one of calendar 0: the first is due. */
    private static void twoInAYear(AlmanacHouse h) {
        int january = h.toDay(0, 2001, 1, 2);
        Check.same("the first of two", h.birthday(6, january + 3600, 2001), january);
        Check.same("the second is none in its year", h.fromDay(0, january + 360, 0), 2001);
        int firstOfThird = h.toDay(3, 1389, 1, 5);
        int year = h.fromDay(0, firstOfThird, 0);
        Check.same("by the tabled moon", h.birthday(3, h.toDay(3, 1, 1, 5), year),
                h.fromDay(0, h.toDay(3, 1388, 1, 5), 0) == year ? h.toDay(3, 1388, 1, 5) : firstOfThird);
    }
}
