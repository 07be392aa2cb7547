/** Promises 11 to 14: rows of a town's own calendar, and words for months. */
public final class TownTest {
    private static final int BAD = AlmanacHouse.BAD, NONE = AlmanacHouse.NONE, OUTSIDE = AlmanacHouse.OUTSIDE,
            FULL = AlmanacHouse.FULL;

    public static void main(String[] args) {
        rows();
        edges();
        manyRows();
        words();
        manyWords();
        Check.done();
    }

    private static void rows() {
        AlmanacHouse h = new AlmanacHouse();
        Check.same("first row", h.row(100, 5), 1);
        for (int i = 2; i <= 23; i++) {
            Check.same("row " + i, h.row(105 + 10 * (i - 2), 10), i);
        }
        Check.same("months of a full year", h.months(7, 2), 10);
        Check.same("months of the last", h.months(7, 3), 3);
        Check.same("no year 4", h.months(7, 4), NONE);
        Check.same("no year 0", h.months(7, 0), NONE);
        Check.same("days of year 1", h.yearLength(7, 1), 95);
        Check.same("days of year 3", h.yearLength(7, 3), 30);
        Check.same("a month", h.monthLength(7, 1, 1), 5);
        Check.same("no month", h.monthLength(7, 3, 4), NONE);
        Check.same("year", h.fromDay(7, 195, 0), 2);
        Check.same("month", h.fromDay(7, 194, 1), 10);
        Check.same("day", h.fromDay(7, 194, 2), 10);
        Check.same("of ten", h.fromDay(7, 194, 3), 4);
        Check.same("count", h.fromDay(7, 194, 4), 0);
        Check.same("ahead of the rows", h.fromDay(7, 99, 2), NONE);
        Check.same("last day", h.fromDay(7, 324, 2), 10);
        Check.same("behind the rows", h.fromDay(7, 325, 2), NONE);
        Check.same("date", h.toDay(7, 3, 3, 10), 324);
        Check.same("a day too many", h.toDay(7, 1, 1, 6), NONE);
        Check.same("to a shorter month", h.addMonths(7, 114, -1), 104);
        Check.same("no month behind", h.addMonths(7, 324, 1), OUTSIDE);
        Check.same("no month ahead", h.addMonths(7, 324, -23), OUTSIDE);
        Check.same("to the first", h.addMonths(7, 324, -22), 104);
        Check.same("year with fewer months", h.addYears(7, 194, 2), 324);
        Check.same("no year", h.addYears(7, 194, 3), OUTSIDE);
        Check.same("years to a day behind the rows", h.difference(7, 194, 5000, 0), 2);
        Check.same("months", h.difference(7, 194, 5000, 1), 0);
        Check.same("days", h.difference(7, 194, 5000, 2), 5000 - 324);
    }

    private static void edges() {
        AlmanacHouse h = new AlmanacHouse();
        Check.same("length 0", h.row(-1, 0), BAD);
        Check.same("length 201", h.row(5, 201), BAD);
        Check.same("ahead of day 0", h.row(-1, 1), OUTSIDE);
        Check.same("behind the last", h.row(1499900, 102), OUTSIDE);
        Check.same("far", h.row(Integer.MAX_VALUE, 200), OUTSIDE);
        Check.same("refused rows are none", h.count(0), 0);
        Check.same("up to the last", h.row(1499900, 101), 1);
        Check.same("behind it", h.row(1500001, 1), OUTSIDE);
        Check.same("not behind it", h.row(1500000, 1), BAD);
        Check.same("its last day", h.fromDay(7, 1500000, 2), 101);
        Check.same("taken back", h.undo(), 0);
        Check.same("anywhere again", h.row(7, 3), 1);
        Check.same("of ten from there", h.fromDay(7, 9, 3), 2);
    }

    private static void manyRows() {
        AlmanacHouse h = new AlmanacHouse();
        for (int i = 1; i <= 500; i++) {
            Check.same("row " + i, h.row(3 * (i - 1), 3), i);
        }
        Check.same("500 are all", h.row(1500, 3), FULL);
        Check.same("BAD ahead of FULL", h.row(1501, 3), BAD);
        Check.same("year 50", h.fromDay(7, 1499, 0), 50);
        Check.same("months of it", h.months(7, 50), 10);
        Check.same("no year 51", h.months(7, 51), NONE);
        Check.same("one is taken back", h.undo(), 99);
        Check.same("and comes again", h.row(1497, 200), 500);
    }

    private static void words() {
        AlmanacHouse h = new AlmanacHouse();
        Check.same("a word", h.name(7, 53, -5L), 1);
        Check.same("it names one already", h.name(7, 52, -5L), BAD);
        Check.same("of another calendar", h.name(6, 52, -5L), 1);
        Check.same("a second", h.name(7, 53, Long.MAX_VALUE), 2);
        Check.same("a third", h.name(7, 53, Long.MIN_VALUE), 3);
        Check.same("a fourth", h.name(7, 53, 9L), FULL);
        Check.same("named already and full", h.name(7, 53, -5L), BAD);
        Check.same("month 0", h.name(7, 0, 9L), BAD);
        Check.same("month 54", h.name(7, 54, 9L), BAD);
        Check.same("no word", h.name(7, 1, 0L), BAD);
        Check.same("no calendar", h.name(-1, 1, 9L), BAD);
        Check.same("named", h.monthNamed(7, -5L), 53);
        Check.same("named elsewhere", h.monthNamed(6, -5L), 52);
        Check.same("by all 64 bits", h.monthNamed(7, 0x7fffffffL), NONE);
        Check.same("not named", h.monthNamed(5, -5L), NONE);
        Check.same("0 names nothing", h.monthNamed(7, 0L), NONE);
        Check.same("no calendar 8", h.monthNamed(8, -5L), BAD);
        Check.same("two calendars", h.spellings(-5L), 2);
        Check.same("one", h.spellings(Long.MAX_VALUE), 1);
        Check.same("none", h.spellings(0L), 0);
        Check.same("words", h.count(1), 4);
    }

    private static void manyWords() {
        AlmanacHouse h = new AlmanacHouse();
        for (int i = 0; i < 300; i++) {
            Check.same("word " + i, h.name(i / 150, i / 3 % 50 + 1, i + 1), i % 3 + 1);
        }
        Check.same("300 are all", h.name(5, 1, 1L), FULL);
        Check.same("BAD ahead of FULL", h.name(0, 53, 1L), BAD);
        Check.same("words", h.count(1), 300);
        Check.same("one is taken back", h.undo(), 99);
        Check.same("its word names nothing", h.monthNamed(1, 300L), NONE);
        Check.same("another comes", h.name(5, 1, 1L), 1);
    }
}
