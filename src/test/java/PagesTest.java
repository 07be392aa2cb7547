/** Promises 30 and 31: the page of a month. */
public final class PagesTest {
    private static final int BAD = AlmanacHouse.BAD, NONE = AlmanacHouse.NONE, OUTSIDE = AlmanacHouse.OUTSIDE;

    public static void main(String[] args) {
        empty();
        month();
        week();
        refusals();
        manyFeasts();
        longRow();
        overTheYear();
        Check.done();
    }

    private static String line(AlmanacHouse h, int line) {
        return signs(h, line, 40);
    }

    /** The first signs of a line, without the blanks at their end. */
    private static String signs(AlmanacHouse h, int line, int many) {
        StringBuilder text = new StringBuilder();
        for (int i = 0; i < many; i++) {
            text.append((char) h.sign(line, i));
        }
        return text.toString().stripTrailing();
    }

    private static void empty() {
        AlmanacHouse h = new AlmanacHouse();
        Check.same("first sign", h.sign(0, 0), 32);
        Check.same("last sign", h.sign(27, 39), 32);
        Check.same("line -1", h.sign(-1, 0), BAD);
        Check.same("line 28", h.sign(28, 0), BAD);
        Check.same("place -1", h.sign(0, -1), BAD);
        Check.same("place 40", h.sign(0, 40), BAD);
        Check.same("far", h.sign(Integer.MAX_VALUE, Integer.MAX_VALUE), BAD);
    }

    private static void month() {
        AlmanacHouse h = new AlmanacHouse();
        h.parish(64, false);
        h.feast(0, 12, 25, 0, 9);
        h.feast(0, 12, 25, 0, 0);
        h.feast(0, 12, 6, 0, 3);
        Check.same("its lines", h.page(0, 0, 2024, 12), 10);
        int first = h.toDay(0, 2024, 12, 1);
        Check.same("it begins on a Friday", first % 7, 4);
        String[] due = {"2024 12", " M  T  W  T  F  S  S", "             1  2  3.",
            " 4  5  6* 7  8  9 10.", "11 12 13 14 15 16 17.", "18 19 20 21 22 23 24.", "25*26 27 28 29 30 31.",
            " 6 2  3", "25 0  9", "25 1  0", ""};
        int moon = (int) Math.floorMod(5604 - first * 25920L, 765433L) / 25920 + first;
        for (int i = 0; i < due.length; i++) {
            String text = due[i];
            boolean moonWeek = i >= 2 && i <= 6 && (moon - moon % 7 - (first - first % 7)) / 7 == i - 2;
            Check.sameText("line " + i, line(h, i), moonWeek ? withMoon(text, moon % 7) : text);
        }
        h.undo();
        Check.sameText("the page stays as it was made", line(h, 7), " 6 2  3");
    }

    private static String withMoon(String text, int weekday) {
        StringBuilder longer = new StringBuilder(text);
        while (longer.length() < 23 + weekday) {
            longer.append(' ');
        }
        return longer.append('o').toString();
    }

    private static void week() {
        AlmanacHouse h = new AlmanacHouse();
        h.parish(127, true);
        Check.same("three lines", h.page(0, 5, 0, 10), 3);
        Check.sameText("head", line(h, 0), "0 10");
        Check.sameText("all days off, a moon on Monday", line(h, 2), " 1. 2. 3. 4. 5. 6. 7.  o");
        Check.same("of the round", h.page(0, 6, 0, 1), 5);
        Check.sameText("its head", line(h, 0), "0 1");
        Check.sameText("its last week", line(h, 4), "15.16.17.18.19.20.");
        Check.sameText("nothing behind", line(h, 5), "");
    }

    private static void refusals() {
        AlmanacHouse h = new AlmanacHouse();
        Check.same("no parish", h.page(0, 0, 2000, 1), BAD);
        h.parish(0, false);
        h.page(0, 0, 2000, 1);
        Check.same("no parish -1", h.page(-1, 0, 2000, 2), BAD);
        Check.same("no calendar", h.page(0, 8, 2000, 2), BAD);
        Check.same("no year", h.page(0, 0, 5001, 2), NONE);
        Check.same("no month", h.page(0, 0, 2001, 13), NONE);
        Check.same("no month 0", h.page(0, 0, 2001, 0), NONE);
        Check.same("no row", h.page(0, 7, 1, 1), NONE);
        Check.same("ahead of day 0", h.page(0, 0, 0, 2), OUTSIDE);
        Check.same("a part ahead of day 0", h.page(0, 1, 0, 3), OUTSIDE);
        Check.same("a part behind the last", h.page(0, 0, 4107, 1), OUTSIDE);
        Check.sameText("refused pages change nothing", line(h, 0), "2000 1");
        Check.same("the first month", h.page(0, 0, 0, 3), 7);
        Check.same("the last month", h.page(0, 0, 4106, 12) >= 7 ? 1 : 0, 1);
    }

    private static void manyFeasts() {
        AlmanacHouse h = new AlmanacHouse();
        h.parish(0, false);
        for (int i = 0; i < 30; i++) {
            h.feast(0, 6, 1, 0, 0);
        }
        Check.same("no more than 28", h.page(0, 0, 2000, 6), 28);
        int weeks = (h.toDay(0, 2000, 6, 30) / 7) - (h.toDay(0, 2000, 6, 1) / 7) + 1;
        Check.sameText("the first feast", line(h, 2 + weeks), " 1 0  0");
        Check.sameText("the last that fits", line(h, 27), " 1 " + (25 - weeks) + " 0");
        for (int i = 0; i < 60 - 31 - weeks; i++) {
            h.undo();
        }
        Check.same("as many as there are", h.page(0, 0, 2000, 6), 2 + weeks + h.count(2));
    }

    private static void longRow() {
        AlmanacHouse h = new AlmanacHouse();
        h.parish(0, false);
        h.row(700, 200);
        Check.same("28 of its lines", h.page(0, 7, 1, 1), 28);
        Check.sameText("two last digits", signs(h, 2 + 14, 21), "99  0  1  2  3  4  5");
        Check.sameText("the last week that fits", signs(h, 27, 5), "76 77");
        h.page(0, 6, 3, 2);
        Check.sameText("nothing is left of it", line(h, 27), "");
    }

    /** A row over the new year: each day has the feasts of its own year. */
    private static void overTheYear() {
        AlmanacHouse h = new AlmanacHouse();
        h.parish(0, false);
        h.feast(0, 12, 31, 0, 9);
        h.feast(0, 12, 31, 0, 8);
        h.feast(0, 1, 2, 0, 7);
        int newYear = h.toDay(0, 2001, 1, 1);
        h.row(newYear - 7 - newYear % 7, 14);
        Check.same("moved into the next year", h.feastDay(1, 2000), newYear);
        Check.same("it has no line", h.page(0, 7, 1, 1), 2 + 2 + 2);
        int number = newYear - (newYear - 7 - newYear % 7);
        Check.sameText("the last of the year", line(h, 4), (number < 10 ? " " : "") + number + " 0  9");
        Check.sameText("of the next", line(h, 5), (number + 2 < 10 ? " " : "") + (number + 2) + " 2  7");
        Check.same("no star on the new year", h.sign(3, 3 * (newYear % 7) + 2), 32);
        Check.same("a star on the second", h.sign(3, 3 * (newYear % 7 + 1) + 2), '*');
    }
}
