/** Promises 11 to 14: how long rows are, where they lie, how many; which words name which months, how many. */
public final class TownEdgesTest {
    private static final int BAD = AlmanacHouse.BAD, NONE = AlmanacHouse.NONE, OUTSIDE = AlmanacHouse.OUTSIDE,
            FULL = AlmanacHouse.FULL, LAST = Scenes.LAST;
    private static final Scene EMPTY = Scenes.empty();
    /** Rows from day 100 on up to 459; words 1 and 2 for month 1 of calendar 0, 1 for month 53 of 7. */
    private static final Scene FURNISHED = Scenes.furnished();

    public static void main(String[] args) {
        rowLengths();
        firstRow();
        nextRow();
        rowsAtTheEnd();
        fiveHundredRows();
        rowRefusals();
        monthsNamed();
        wordsOfAMonth();
        threeHundredWords();
        wordsAsked();
        Check.done();
    }

    /** "so many days (1 .. 200)". */
    private static void rowLengths() {
        Check.same("one day", new AlmanacHouse().row(5, 1), 1);
        Check.same("200 days", new AlmanacHouse().row(5, 200), 1);
        for (int length : new int[] {0, 201, -1, Integer.MIN_VALUE, Integer.MAX_VALUE}) {
            EMPTY.refuses("a row of " + length, h -> h.row(5, length), BAD);
            FURNISHED.refuses("a row of " + length, h -> h.row(460, length), BAD);
        }
    }

    private static void firstRow() {
        Check.same("on day 0", new AlmanacHouse().row(0, 1), 1);
        Check.same("on the last day", new AlmanacHouse().row(LAST, 1), 1);
        for (int first : new int[] {-1, LAST + 1, Integer.MIN_VALUE, Integer.MAX_VALUE}) {
            EMPTY.refuses("the first row at " + first, h -> h.row(first, 1), OUTSIDE);
            EMPTY.refuses("a long one at " + first, h -> h.row(first, 200), OUTSIDE);
        }
    }

    /** "BAD: .. first is not the day behind the last ROW". */
    private static void nextRow() {
        Check.same("the day behind", FURNISHED.house().row(460, 1), 13);
        for (int first : new int[] {459, 461, 100, 0, -1, LAST, LAST + 1, Integer.MIN_VALUE, Integer.MAX_VALUE}) {
            FURNISHED.refuses("a row at " + first, h -> h.row(first, 1), BAD);
        }
        AlmanacHouse h = FURNISHED.house();
        Check.same("a row", h.row(460, 200), 13);
        Check.same("and one behind it", h.row(660, 1), 14);
        Check.same("taken back", h.undo() >= 0 ? 1 : 0, 1);
        Check.same("not at its end any more", h.row(661, 1), BAD);
        Check.same("but at its beginning", h.row(660, 2), 14);
    }

    /** "OUTSIDE: a day of it". */
    private static void rowsAtTheEnd() {
        Check.same("up to the last day", new AlmanacHouse().row(LAST - 199, 200), 1);
        EMPTY.refuses("a day beyond it", h -> h.row(LAST - 198, 200), OUTSIDE);
        EMPTY.refuses("two days from the last on", h -> h.row(LAST, 2), OUTSIDE);
        EMPTY.refuses("a day ahead of day 0", h -> h.row(-1, 2), OUTSIDE);
        Scene toTheEnd = new Scene("rows up to the end").then(h -> h.row(LAST - 1, 2));
        toTheEnd.refuses("a row behind the last day", h -> h.row(LAST + 1, 1), OUTSIDE);
        toTheEnd.refuses("a row on the last day", h -> h.row(LAST, 1), BAD);
        Scene nearTheEnd = new Scene("rows nearly up to the end").then(h -> h.row(LAST - 9, 5));
        nearTheEnd.refuses("a day too long", h -> h.row(LAST - 4, 6), OUTSIDE);
        Check.same("as long as can be", nearTheEnd.house().row(LAST - 4, 5), 2);
    }

    private static void fiveHundredRows() {
        AlmanacHouse h = new AlmanacHouse();
        for (int i = 0; i < 499; i++) {
            h.row(i, 1);
        }
        Check.same("the 500th", h.row(499, 1), 500);
        Scene full = Scenes.fullOfRows(499);
        full.refuses("the 501st", g -> g.row(500, 1), FULL);
        AlmanacHouse g = full.house();
        g.undo();
        Check.same("one is taken back, one comes", g.row(499, 200), 500);
        Check.same("year 50 has them", g.yearLength(7, 50), 209);
    }

    /** BAD, then OUTSIDE, then FULL. */
    private static void rowRefusals() {
        EMPTY.refuses("length, not OUTSIDE", h -> h.row(-1, 0), BAD);
        EMPTY.refuses("length, not OUTSIDE at the end", h -> h.row(LAST, 201), BAD);
        FURNISHED.refuses("first, not OUTSIDE", h -> h.row(-1, 5), BAD);
        Scene full = Scenes.fullOfRows(LAST);
        full.refuses("length, not FULL", h -> h.row(LAST + 1, 0), BAD);
        full.refuses("first, not FULL", h -> h.row(LAST, 1), BAD);
        full.refuses("OUTSIDE, not FULL", h -> h.row(LAST + 1, 1), OUTSIDE);
    }

    /** "A word (not 0) names a MONTH (1 .. 53) of a CALENDAR". */
    private static void monthsNamed() {
        for (int calendar = 0; calendar <= 7; calendar++) {
            AlmanacHouse h = new AlmanacHouse();
            Check.same("month 1 of " + calendar, h.name(calendar, 1, 5L), 1);
            Check.same("month 53 of " + calendar, h.name(calendar, 53, 6L), 1);
            Check.same("it is named", h.monthNamed(calendar, 6L), 53);
        }
        for (int month : new int[] {0, 54, -1, Integer.MIN_VALUE, Integer.MAX_VALUE}) {
            FURNISHED.refuses("month " + month, h -> h.name(0, month, 9L), BAD);
        }
        for (int calendar : new int[] {-1, 8, Integer.MIN_VALUE, Integer.MAX_VALUE}) {
            FURNISHED.refuses("name of calendar " + calendar, h -> h.name(calendar, 1, 9L), BAD);
            FURNISHED.refuses("monthNamed of calendar " + calendar, h -> h.monthNamed(calendar, 1L), BAD);
        }
        FURNISHED.refuses("a word 0", h -> h.name(0, 2, 0L), BAD);
        EMPTY.refuses("a word 0 in an empty house", h -> h.name(0, 2, 0L), BAD);
        long[] words = {1L, -1L, Long.MAX_VALUE, Long.MIN_VALUE, 1L << 32, 1L + (1L << 32)};
        AlmanacHouse h = new AlmanacHouse();
        for (int i = 0; i < words.length; i++) {
            Check.same("word " + words[i], h.name(0, i + 1, words[i]), 1);
        }
        for (int i = 0; i < words.length; i++) {
            Check.same("month of " + words[i], h.monthNamed(0, words[i]), i + 1);
        }
    }

    /** "how many words that has"; "BAD: also it names one of that CALENDAR already; FULL: that MONTH has 3". */
    private static void wordsOfAMonth() {
        FURNISHED.refuses("it names that month", h -> h.name(0, 1, 1L), BAD);
        FURNISHED.refuses("it names another month of it", h -> h.name(0, 2, 1L), BAD);
        Check.same("of another calendar", FURNISHED.house().name(1, 2, 1L), 1);
        Check.same("the third word", FURNISHED.house().name(0, 1, 3L), 3);
        Check.same("the first of another month", FURNISHED.house().name(0, 2, 3L), 1);
        Scene three = Scenes.furnished().then(h -> h.name(0, 1, 3L));
        three.refuses("a fourth word", h -> h.name(0, 1, 4L), FULL);
        three.refuses("BAD, not FULL: it names that month", h -> h.name(0, 1, 3L), BAD);
        three.refuses("BAD, not FULL: a word 0", h -> h.name(0, 1, 0L), BAD);
        Check.same("the same month of another calendar", three.house().name(1, 1, 4L), 1);
        Check.same("another month", three.house().name(0, 2, 4L), 1);
        AlmanacHouse h = three.house();
        h.undo();
        Check.same("taken back, another comes", h.name(0, 1, 4L), 3);
    }

    private static void threeHundredWords() {
        AlmanacHouse h = new AlmanacHouse();
        for (int i = 0; i < 299; i++) {
            h.name(i / 150, i / 3 % 50 + 1, i + 1);
        }
        Check.same("the 300th", h.name(1, 50, 300L), 3);
        Scene full = Scenes.fullOfWords();
        full.refuses("the 301st", g -> g.name(5, 1, 301L), FULL);
        full.refuses("both full", g -> g.name(0, 1, 301L), FULL);
        full.refuses("one that names a month of another calendar", g -> g.name(5, 1, 1L), FULL);
        full.refuses("BAD, not FULL: calendar", g -> g.name(8, 1, 301L), BAD);
        full.refuses("BAD, not FULL: month", g -> g.name(5, 54, 301L), BAD);
        full.refuses("BAD, not FULL: word", g -> g.name(5, 1, 0L), BAD);
        full.refuses("BAD, not FULL: it names one already", g -> g.name(0, 53, 1L), BAD);
        AlmanacHouse g = full.house();
        g.undo();
        Check.same("one is taken back, one comes", g.name(5, 1, 300L), 1);
        Check.same("and names that one only", g.monthNamed(1, 300L), NONE);
        Scene twice = new Scene("150 words in two calendars").times(300, (x, i) -> x.name(i / 150, i / 3 % 50 + 1, i % 150 + 1));
        Check.same("150 words, each of two calendars, count as 300", twice.house().count(1), 300);
        twice.refuses("and are full", x -> x.name(2, 1, 301L), FULL);
    }

    private static void wordsAsked() {
        EMPTY.refuses("no words", h -> h.monthNamed(0, 1L), NONE);
        EMPTY.refuses("no spellings", h -> h.spellings(1L), 0);
        FURNISHED.refuses("of another calendar", h -> h.monthNamed(1, 1L), NONE);
        FURNISHED.refuses("another word", h -> h.monthNamed(0, 3L), NONE);
        FURNISHED.refuses("the same lower half", h -> h.monthNamed(0, 1L + (1L << 32)), NONE);
        FURNISHED.refuses("no word", h -> h.monthNamed(0, 0L), NONE);
        FURNISHED.refuses("BAD, not NONE", h -> h.monthNamed(8, 3L), BAD);
        FURNISHED.refuses("no spellings of 0", h -> h.spellings(0L), 0);
        FURNISHED.refuses("none of another word", h -> h.spellings(3L), 0);
        Check.same("two calendars", FURNISHED.house().spellings(1L), 2);
        Check.same("one", FURNISHED.house().spellings(2L), 1);
        AlmanacHouse h = new AlmanacHouse();
        for (int calendar = 0; calendar <= 7; calendar++) {
            h.name(calendar, 53 - calendar, Long.MIN_VALUE);
            Check.same("spellings up to " + calendar, h.spellings(Long.MIN_VALUE), calendar + 1);
        }
    }
}
