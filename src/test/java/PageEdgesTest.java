/** Promises 30 and 31: which months have a page, what its first and last lines hold, and what is left out. */
public final class PageEdgesTest {
    private static final int BAD = AlmanacHouse.BAD, NONE = AlmanacHouse.NONE, OUTSIDE = AlmanacHouse.OUTSIDE,
            LAST = Scenes.LAST;
    private static final int LEAST = Integer.MIN_VALUE, MOST = Integer.MAX_VALUE;
    private static final String WEEKDAYS = " M  T  W  T  F  S  S";
    /** Two parishes, and the page of month 1 of 2000 of calendar 0. */
    private static final Scene FURNISHED = Scenes.furnished();

    public static void main(String[] args) {
        places();
        emptyPage();
        noParishNoCalendar();
        noMonth();
        daysOfTheMonth();
        firstRefusal();
        firstLine();
        weekLines();
        numbersOfDays();
        starOrPoint();
        bridgedAtTheEnds();
        feastOfAnotherYear();
        feastLines();
        manyFeasts();
        longRows();
        onePageBehindAnother();
        Check.done();
    }

    private static String line(AlmanacHouse h, int line) {
        StringBuilder text = new StringBuilder();
        for (int i = 0; i < 40; i++) {
            text.append((char) h.sign(line, i));
        }
        return text.toString().stripTrailing();
    }

    /** The signs of a week without those of the moon. */
    private static String week(AlmanacHouse h, int line) {
        String text = line(h, line);
        return text.substring(0, Math.min(21, text.length())).stripTrailing();
    }

    /** "A PAGE has 28 lines of 40 signs"; "BAD: line, place". */
    private static void places() {
        AlmanacHouse h = FURNISHED.house();
        Check.same("the first sign", h.sign(0, 0), '2');
        Check.same("the last of the first line", h.sign(0, 39), 32);
        Check.same("the first of the last line", h.sign(27, 0), 32);
        Check.same("the last sign", h.sign(27, 39), 32);
        for (int line : new int[] {-1, 28, LEAST, MOST}) {
            FURNISHED.refuses("line " + line, g -> g.sign(line, 0), BAD);
            FURNISHED.refuses("line " + line + ", last place", g -> g.sign(line, 39), BAD);
        }
        for (int place : new int[] {-1, 40, LEAST, MOST}) {
            FURNISHED.refuses("place " + place, g -> g.sign(0, place), BAD);
            FURNISHED.refuses("place " + place + " of the last line", g -> g.sign(27, place), BAD);
        }
        FURNISHED.refuses("neither", g -> g.sign(28, 40), BAD);
    }

    /** "(32 all over at first)". */
    private static void emptyPage() {
        for (int line = 0; line < 28; line++) {
            AlmanacHouse h = new AlmanacHouse();
            for (int i = 0; i < 40; i++) {
                Check.same("sign " + line + " " + i, h.sign(line, i), 32);
            }
        }
    }

    private static void noParishNoCalendar() {
        for (int parish : new int[] {-1, 2, 8, LEAST, MOST}) {
            FURNISHED.refuses("parish " + parish, h -> h.page(parish, 0, 2001, 1), BAD);
        }
        for (int calendar : new int[] {-1, 8, LEAST, MOST}) {
            FURNISHED.refuses("calendar " + calendar, h -> h.page(0, calendar, 2001, 1), BAD);
        }
        Scenes.empty().refuses("no parish at all", h -> h.page(0, 0, 2001, 1), BAD);
        Check.same("parish 1", FURNISHED.house().page(1, 0, 2001, 2) > 0 ? 1 : 0, 1);
    }

    private static void noMonth() {
        int[] years = {2000, 2000, 2000, 2000, 2000, 2000, 2000, 2};
        int[] months = {12, 12, 13, 12, 0, 0, 18, 2};
        months[4] = new AlmanacHouse().months(4, 2000);
        months[5] = new AlmanacHouse().months(5, 2000);
        for (int c = 0; c <= 7; c++) {
            int calendar = c;
            int year = years[c];
            int last = months[c];
            Check.same("the first month of " + c, FURNISHED.house().page(0, c, year, 1) > 2 ? 1 : 0, 1);
            Check.same("the last month of " + c, FURNISHED.house().page(0, c, year, last) > 2 ? 1 : 0, 1);
            FURNISHED.refuses("month 0 of " + c, h -> h.page(0, calendar, year, 0), NONE);
            FURNISHED.refuses("a month more of " + c, h -> h.page(0, calendar, year, last + 1), NONE);
        }
        FURNISHED.refuses("year 3 of the town", h -> h.page(0, 7, 3, 1), NONE);
        FURNISHED.refuses("year 0 of the town", h -> h.page(0, 7, 0, 1), NONE);
    }

    /** "OUTSIDE: a day of it": the months at both ends of the row of days, and those beside them. */
    private static void daysOfTheMonth() {
        int[][] first = {{0, 0, 3}, {1, 0, 4}, {2, 1, 1}, {3, 1, 1}, {4, 1, 1}, {5, 0, 10}, {6, 0, 1}};
        int[][] last = {{0, 4106, 12}, {1, 4106, 11}, {2, 4107, 9}, {3, 4233, 10}, {4, 4107, 10}, {5, 4107, 1},
            {6, 4166, 12}};
        for (int[] m : first) {
            Check.same("the first page of " + m[0], FURNISHED.house().page(0, m[0], m[1], m[2]) > 2 ? 1 : 0, 1);
        }
        for (int[] m : last) {
            Check.same("the last page of " + m[0], FURNISHED.house().page(0, m[0], m[1], m[2]) > 2 ? 1 : 0, 1);
        }
        int[][] none = {{0, 0, 1}, {0, 0, 2}, {1, 0, 1}, {1, 0, 3}, {5, 0, 1}, {5, 0, 9}, {0, 4107, 1}, {0, 4107, 2},
            {1, 4106, 12}, {2, 4107, 10}, {3, 4233, 11}, {4, 4107, 11}, {5, 4107, 2}, {6, 4166, 13}, {0, 5000, 12}};
        for (int[] m : none) {
            FURNISHED.refuses("page of " + m[2] + " " + m[1] + " of " + m[0], h -> h.page(0, m[0], m[1], m[2]), OUTSIDE);
        }
        AlmanacHouse h = new AlmanacHouse();
        h.parish(127, false);
        h.row(LAST, 1);
        Check.same("a row of the last day", h.page(0, 7, 1, 1), 3);
        Check.sameText("it is a Saturday", week(h, 2), "                1.");
    }

    private static void firstRefusal() {
        FURNISHED.refuses("parish, not NONE", h -> h.page(2, 0, 5001, 1), BAD);
        FURNISHED.refuses("calendar, not NONE", h -> h.page(0, 8, 2000, 0), BAD);
        FURNISHED.refuses("parish, not OUTSIDE", h -> h.page(2, 0, 0, 1), BAD);
        FURNISHED.refuses("NONE, not OUTSIDE", h -> h.page(0, 0, 5000, 13), NONE);
        FURNISHED.refuses("NONE, not OUTSIDE, in year 0", h -> h.page(0, 0, 0, 0), NONE);
    }

    /** "the YEAR and the MONTH, decimal, one blank between, from sign 0 on". */
    private static void firstLine() {
        int[][] heads = {{0, 0, 3}, {6, 0, 18}, {6, 9, 9}, {6, 10, 10}, {0, 99, 12}, {0, 100, 1}, {0, 999, 12},
            {0, 1000, 1}, {0, 4106, 12}, {5, 0, 53}};
        for (int[] m : heads) {
            AlmanacHouse h = FURNISHED.house();
            h.page(0, m[0], m[1], m[2]);
            Check.sameText("head", line(h, 0), m[1] + " " + m[2]);
            Check.sameText("weekdays", line(h, 1), WEEKDAYS);
        }
    }

    private static AlmanacHouse pageOfRow(int first, int length) {
        AlmanacHouse h = new AlmanacHouse();
        h.parish(0, false);
        h.row(first, length);
        h.page(0, 7, 1, 1);
        return h;
    }

    private static int linesOfRow(int first, int length) {
        AlmanacHouse h = new AlmanacHouse();
        h.parish(0, false);
        h.row(first, length);
        return h.page(0, 7, 1, 1);
    }

    /** "a line for each week (from Monday on) that has days of it". */
    private static void weekLines() {
        Check.same("a Monday", linesOfRow(700, 1), 3);
        Check.same("a Sunday", linesOfRow(706, 1), 3);
        Check.same("a week", linesOfRow(700, 7), 3);
        Check.same("a week and a day", linesOfRow(700, 8), 4);
        Check.same("a Sunday and a Monday", linesOfRow(706, 2), 4);
        Check.same("a Sunday and a week", linesOfRow(706, 8), 4);
        Check.same("a Sunday, a week and a day", linesOfRow(706, 9), 5);
        Check.sameText("Monday", week(pageOfRow(700, 1), 2), " 1");
        Check.sameText("Sunday", week(pageOfRow(706, 2), 2), "                   1");
        Check.sameText("and Monday", week(pageOfRow(706, 2), 3), " 2");
        Check.sameText("all seven", week(pageOfRow(700, 7), 2), " 1  2  3  4  5  6  7");
        Check.sameText("nothing behind", line(pageOfRow(700, 7), 3), "");
    }

    /** "(its two last digits, a blank for a 0 ahead)". */
    private static void numbersOfDays() {
        AlmanacHouse h = pageOfRow(700, 200);
        String[] due = {" 8  9 10 11 12 13 14", "92 93 94 95 96 97 98", "99  0  1  2  3  4  5", " 6  7  8  9 10 11 12"};
        int[] lines = {3, 15, 16, 17};
        for (int i = 0; i < lines.length; i++) {
            Check.sameText("line " + lines[i], week(h, lines[i]), due[i]);
        }
    }

    /** "* if a FEAST (of its own YEAR) is PLACED on it, else . if it is OFF". */
    private static void starOrPoint() {
        AlmanacHouse h = new AlmanacHouse();
        h.parish(1 | 4, true);
        h.parish(1 | 4, false);
        h.feast(0, 3, 9, 0, 0);
        h.feast(0, 3, 12, 0, 1);
        h.page(0, 0, 0, 3);
        Check.sameText("off, a feast on a bridge, off, none, a feast", week(h, 3), " 8. 9*10.11 12*13 14");
        h.page(1, 0, 0, 3);
        Check.sameText("without bridges", week(h, 3), " 8. 9*10.11 12*13 14");
        Check.sameText("a bridge without a feast", week(h, 4), "15.16 17.18 19 20 21");
        h.page(0, 0, 0, 3);
        Check.sameText("with bridges", week(h, 4), "15.16.17.18 19 20 21");
        h.rule(0, 1, 0, 0);
        h.page(0, 0, 0, 3);
        Check.sameText("off and a feast", week(h, 3), " 8. 9*10.11.12*13 14");
    }

    /** The first and the last day of a month are bridged by days that are not on its page. */
    private static void bridgedAtTheEnds() {
        AlmanacHouse h = new AlmanacHouse();
        h.parish(64 | 2, true);
        h.parish(1 | 32, true);
        h.row(700, 7);
        h.page(0, 7, 1, 1);
        Check.sameText("Monday, by the Sunday ahead", week(h, 2), " 1. 2. 3  4  5  6  7.");
        h.page(1, 7, 1, 1);
        Check.sameText("Sunday, by the Monday behind", week(h, 2), " 1. 2  3  4  5  6. 7.");
        h.page(0, 5, 0, 10);
        Check.sameText("no day ahead of day 0", week(h, 2), " 1  2. 3  4  5  6  7.");
    }

    /** A feast that was moved, or lies, in another YEAR than its own is not on the page there. */
    private static void feastOfAnotherYear() {
        AlmanacHouse h = new AlmanacHouse();
        h.parish(0, false);
        h.feast(0, 12, 31, 0, 5);
        h.feast(0, 12, 31, 0, 4);
        h.feast(0, 1, 2, 0, 3);
        h.rule(0, 1, 0, 0);
        Check.same("moved into 2000", h.feastDay(1, 1999), Scenes.NEW_YEAR_2000);
        h.page(0, 0, 2000, 1);
        int first = Scenes.NEW_YEAR_2000 % 7;
        Check.same("no star on its first day, but it is off", h.sign(2, 3 * first + 2), '.');
        Check.sameText("its only feast", line(h, 2 + (first + 30) / 7 + 1), " 2 2  3");
        Check.sameText("and no more", line(h, 2 + (first + 30) / 7 + 2), "");
        h.page(0, 5, h.fromDay(5, Scenes.NEW_YEAR_2000, 0), h.fromDay(5, Scenes.NEW_YEAR_2000, 1));
        Check.sameText("a week over both years, each with its own", line(h, 3), " " + first + " 0  5");
        Check.sameText("and the other's", line(h, 4), " " + (first + 2) + " 2  3");
    }

    /** "by days, on one by RANKS, the greatest first, then numbers": numbers and ranks of one and two digits. */
    private static void feastLines() {
        AlmanacHouse h = new AlmanacHouse();
        h.parish(0, false);
        for (int i = 0; i < 11; i++) {
            h.feast(0, 7, 30, 0, 0);
        }
        h.feast(0, 3, 10, 0, 9);
        h.feast(0, 3, 9, 0, 0);
        h.feast(0, 3, 10, 0, 0);
        h.feast(0, 3, 10, 0, 2);
        h.feast(0, 3, 31, 0, 5);
        Check.same("its lines", h.page(0, 0, 0, 3), 12);
        String[] due = {" 9 12 0", "10 11 9", "10 13 0", "11 14 2", "31 15 5", ""};
        for (int i = 0; i < due.length; i++) {
            Check.sameText("feast line " + i, line(h, 7 + i), due[i]);
        }
        Check.same("the number from sign 3 on", h.sign(7, 3), '1');
        Check.same("two digits", h.sign(7, 4), '2');
        Check.same("the rank at sign 6", h.sign(7, 6), '0');
    }

    /** "What would be in line 28 and on is left out": five weeks and so many feasts. */
    private static void manyFeasts() {
        for (int feasts = 19; feasts <= 23; feasts++) {
            AlmanacHouse h = new AlmanacHouse();
            h.parish(0, false);
            for (int i = 0; i < feasts; i++) {
                h.feast(0, 3, 1, 0, 0);
            }
            Check.same(feasts + " feasts", h.page(0, 0, 0, 3), Math.min(28, 7 + feasts));
            Check.sameText("the last line of " + feasts, line(h, 27), feasts > 20 ? " 1 20 0" : "");
        }
        AlmanacHouse h = new AlmanacHouse();
        h.parish(0, false);
        for (int i = 0; i < 60; i++) {
            h.feast(0, 3, 1 + i % 2, 0, 0);
        }
        Check.same("60 feasts", h.page(0, 0, 0, 3), 28);
        Check.sameText("the first day's, by numbers", line(h, 27), " 1 40 0");
    }

    /** Weeks in line 28 and on are left out, and with them all feasts. */
    private static void longRows() {
        Check.same("25 weeks", linesOfRow(700, 175), 27);
        Check.same("26 weeks", linesOfRow(700, 182), 28);
        Check.same("26 weeks and a day", linesOfRow(700, 183), 28);
        Check.same("200 days", linesOfRow(700, 200), 28);
        Check.same("200 days from a Sunday on", linesOfRow(706, 200), 28);
        Check.sameText("day 182 is in the last line", week(pageOfRow(700, 200), 27), "76 77 78 79 80 81 82");
        AlmanacHouse h = new AlmanacHouse();
        h.parish(0, false);
        int first = h.toDay(0, 2000, 1, 1);
        int monday = first + 7 - first % 7;
        h.row(monday, 175);
        h.feast(0, 3, 1, 0, 1);
        h.feast(0, 3, 2, 0, 1);
        Check.same("25 weeks and two feasts", h.page(0, 7, 1, 1), 28);
        int number = h.toDay(0, 2000, 3, 1) - monday + 1;
        Check.sameText("the first of them", line(h, 27), number + " 0  1");
        h.row(monday + 175, 182);
        Check.same("a second page", h.page(0, 7, 1, 2), 28);
        h.feast(0, 7, 1, 0, 1);
        Check.same("26 weeks and a feast", h.page(0, 7, 1, 2), 28);
        Check.same("its star is there", starsIn(h), 1);
    }

    private static int starsIn(AlmanacHouse h) {
        int stars = 0;
        for (int line = 2; line < 28; line++) {
            for (int w = 0; w < 7; w++) {
                stars += h.sign(line, 3 * w + 2) == '*' ? 1 : 0;
            }
        }
        return stars;
    }

    /** THE PAGE is the latest one alone, and stays as it was made when feasts come and go. */
    private static void onePageBehindAnother() {
        AlmanacHouse h = pageOfRow(700, 200);
        Check.same("a week's page", h.page(0, 5, 0, 10), 3);
        Check.sameText("its head", line(h, 0), "0 10");
        Check.sameText("nothing is left of the other", line(h, 3), "");
        Check.sameText("nor in the last line", line(h, 27), "");
        AlmanacHouse g = new AlmanacHouse();
        g.parish(0, false);
        g.feast(0, 3, 1, 0, 1);
        Check.same("a feast's line", g.page(0, 0, 0, 3), 8);
        g.undo();
        Check.sameText("stays when the feast is taken back", line(g, 7), " 1 0  1");
        g.undo();
        Check.sameText("and the parish", line(g, 0), "0 3");
    }
}
