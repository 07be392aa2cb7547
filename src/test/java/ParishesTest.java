/** Promises 24 to 29: parishes, their rules, and their days off. */
public final class ParishesTest {
    private static final int BAD = AlmanacHouse.BAD, NONE = AlmanacHouse.NONE, OUTSIDE = AlmanacHouse.OUTSIDE,
            FULL = AlmanacHouse.FULL;
    private static final int SUNDAY = 64, WEEKEND = 96;

    public static void main(String[] args) {
        parishes();
        rules();
        weekly();
        bridges();
        edgesOfTheRow();
        aheadAndBehind();
        overTheYear();
        farAway();
        farAhead();
        worked();
        nextOff();
        inRow();
        Check.done();
    }

    private static void parishes() {
        AlmanacHouse h = new AlmanacHouse();
        Check.same("weekly -1", h.parish(-1, true), BAD);
        Check.same("weekly 128", h.parish(128, true), BAD);
        for (int i = 0; i < 8; i++) {
            Check.same("parish " + i, h.parish(i == 0 ? 0 : 127, i % 2 == 0), i);
        }
        Check.same("8 are all", h.parish(0, false), FULL);
        Check.same("BAD ahead of FULL", h.parish(128, false), BAD);
        Check.same("taken back", h.undo(), 7);
        Check.same("again", h.parish(0, false), 7);
        Check.same("as told now", h.isOff(7, 5), 0);
    }

    private static void rules() {
        AlmanacHouse h = new AlmanacHouse();
        h.parish(0, false);
        Check.same("no feast", h.rule(0, 0, 0, 0), BAD);
        h.feast(0, 5, 1, 0, 1);
        h.parish(0, false);
        Check.same("no parish", h.rule(2, 0, 0, 0), BAD);
        Check.same("no parish -1", h.rule(-1, 0, 0, 0), BAD);
        Check.same("no feast -1", h.rule(0, -1, 0, 0), BAD);
        Check.same("11 ahead", h.rule(0, 0, 11, 0), BAD);
        Check.same("-1 ahead", h.rule(0, 0, -1, 0), BAD);
        Check.same("11 behind", h.rule(0, 0, 0, 11), BAD);
        Check.same("-1 behind", h.rule(0, 0, 0, -1), BAD);
        for (int i = 1; i <= 40; i++) {
            Check.same("rule " + i, h.rule(0, 0, 10, 10), i);
        }
        for (int i = 1; i <= 8; i++) {
            Check.same("of another parish " + i, h.rule(1, 0, 0, 0), i);
        }
        Check.same("48 are all", h.rule(1, 0, 0, 0), FULL);
        Check.same("BAD ahead of FULL", h.rule(1, 1, 0, 0), BAD);
        Check.same("in all", h.count(4), 48);
        Check.same("taken back", h.undo(), 50);
        Check.same("the other parish may", h.rule(0, 0, 0, 0), 41);
    }

    private static void weekly() {
        AlmanacHouse h = new AlmanacHouse();
        h.parish(SUNDAY, false);
        h.parish(1, false);
        Check.same("Sunday", h.isOff(0, 6), 1);
        Check.same("Monday", h.isOff(0, 7), 0);
        Check.same("Monday elsewhere", h.isOff(1, 7), 1);
        Check.same("day 0", h.isOff(1, 0), 1);
        Check.same("no parish", h.isOff(2, -1), BAD);
        Check.same("no parish -1", h.isOff(-1, 5), BAD);
        Check.same("no day", h.isOff(0, -1), OUTSIDE);
        Check.same("no day behind", h.isOff(0, 1500001), OUTSIDE);
        Check.same("the last day", h.isOff(1, 1500000), 1500000 % 7 == 0 ? 1 : 0);
    }

    /** A Thursday's feast with a weekend on Saturday and Sunday makes the Friday a bridge. */
    private static void bridges() {
        AlmanacHouse h = new AlmanacHouse();
        h.parish(WEEKEND, true);
        h.parish(WEEKEND, false);
        h.feast(1, 6, 3, 2, 1);
        h.rule(0, 0, 0, 0);
        h.rule(1, 0, 0, 0);
        int thursday = h.feastDay(0, 1990);
        Check.same("the feast", h.isOff(0, thursday), 1);
        Check.same("the bridge", h.isOff(0, thursday + 1), 1);
        Check.same("no bridge", h.isOff(1, thursday + 1), 0);
        Check.same("no bridge ahead", h.isOff(0, thursday - 1), 0);
        AlmanacHouse g = new AlmanacHouse();
        g.parish(1 | 4 | 32, true);
        Check.same("between two", g.isOff(0, 8), 1);
        Check.same("a bridge bridges no more", g.isOff(0, 10), 0);
        Check.same("two days apart", g.isOff(0, 11), 0);
        Check.same("Sunday between Saturday and Monday", g.isOff(0, 13), 1);
    }

    private static void edgesOfTheRow() {
        AlmanacHouse h = new AlmanacHouse();
        h.parish(SUNDAY | 2, true);
        Check.same("no day ahead of day 0 bridges", h.isOff(0, 0), 0);
        Check.same("but a Monday is bridged", h.isOff(0, 7), 1);
        int last = 1500000 % 7;
        h.parish(1 << (last + 6) % 7 | 1 << (last + 1) % 7, true);
        Check.same("no day behind the last one bridges", h.isOff(1, 1500000), 0);
        Check.same("but a week ahead", h.isOff(1, 1499993), 1);
    }

    private static void aheadAndBehind() {
        AlmanacHouse h = new AlmanacHouse();
        h.parish(0, false);
        h.feast(0, 6, 10, 0, 2);
        h.feast(0, 6, 10, 0, 1);
        h.rule(0, 1, 2, 3);
        int placed = h.feastDay(1, 2000);
        Check.same("placed a day behind", placed, h.toDay(0, 2000, 6, 11));
        for (int i = -4; i <= 5; i++) {
            Check.same("day " + i, h.isOff(0, placed + i), i >= -2 && i <= 3 ? 1 : 0);
        }
    }

    private static void overTheYear() {
        AlmanacHouse h = new AlmanacHouse();
        h.parish(0, false);
        h.feast(0, 1, 3, 0, 2);
        h.feast(0, 12, 30, 0, 2);
        h.rule(0, 0, 5, 0);
        h.rule(0, 1, 0, 4);
        int newYear = h.toDay(0, 2000, 1, 1);
        for (int i = -5; i <= 5; i++) {
            int off = i >= -3 && i <= 2 ? 1 : 0;
            Check.same("around the new year " + i, h.isOff(0, newYear + i), off);
        }
        Check.same("in year 0 there is none before", h.isOff(0, 0), 0);
        Check.same("at the end", h.isOff(0, h.toDay(0, 4107, 1, 3)), 1);
    }

    /** A feast led two years on frees no day there: only its own year and those beside it count. */
    private static void farAway() {
        AlmanacHouse h = new AlmanacHouse();
        h.parish(0, false);
        h.feast(0, 12, 30, 0, 9);
        for (int i = 1; i <= 10; i++) {
            h.feast(3, i - 1, 40, 0, 9);
        }
        h.rule(0, 9, 3, 10);
        int far = h.feastDay(9, 2001);
        Check.same("it is 360 days on", far, h.toDay(0, 2001, 12, 30) + 360);
        Check.same("in the next year", h.isOff(0, far), 1);
        int newYear = h.toDay(0, 2003, 1, 1);
        Check.same("up to its last day", h.isOff(0, newYear - 1), 1);
        Check.same("but no further", h.isOff(0, newYear), 0);
        h.rule(0, 10, 0, 0);
        Check.same("two years on", h.isOff(0, h.feastDay(10, 2001)), 0);
        Check.same("in a long stretch too", h.worked(0, newYear - 400, newYear + 399), 800 - 3 * 10);
    }

    /** The same the other way: led ahead, a feast frees days of the year before, and none ahead of it. */
    private static void farAhead() {
        AlmanacHouse h = new AlmanacHouse();
        h.parish(0, false);
        h.feast(0, 1, 3, 0, 9);
        for (int i = 1; i <= 10; i++) {
            h.feast(3, i - 1, -40, 0, 9);
        }
        h.rule(0, 9, 10, 3);
        int far = h.feastDay(9, 2003);
        int newYear = h.toDay(0, 2002, 1, 1);
        Check.same("it is 360 days ahead", far, h.toDay(0, 2003, 1, 3) - 360);
        Check.same("in the year before", h.isOff(0, far), 1);
        Check.same("from its first day on", h.isOff(0, newYear), 1);
        Check.same("but no further", h.isOff(0, newYear - 1), 0);
        Check.same("in a long stretch too", h.nextOff(0, newYear - 30), newYear);
    }

    private static void worked() {
        AlmanacHouse h = new AlmanacHouse();
        h.parish(WEEKEND, false);
        Check.same("a week", h.worked(0, 0, 6), 5);
        Check.same("a day", h.worked(0, 4, 4), 1);
        Check.same("a day off", h.worked(0, 5, 5), 0);
        Check.same("800 days", h.worked(0, 700, 1499), 800 - 114 * 2);
        Check.same("801 days", h.worked(0, 700, 1500), BAD);
        Check.same("to is less", h.worked(0, 5, 4), BAD);
        Check.same("too many ahead of OUTSIDE", h.worked(0, -1, 800), BAD);
        Check.same("as far as can be", h.worked(0, Integer.MIN_VALUE, Integer.MAX_VALUE), BAD);
        Check.same("from is none", h.worked(0, -1, 5), OUTSIDE);
        Check.same("to is none", h.worked(0, 1499990, 1500001), OUTSIDE);
        Check.same("no parish", h.worked(1, -1, 5), BAD);
        Check.same("up to the last", h.worked(0, 1499201, 1500000), 800 - weekends(1499201, 1500000));
    }

    private static int weekends(int from, int to) {
        int days = 0;
        for (int n = from; n <= to; n++) {
            days += n % 7 >= 5 ? 1 : 0;
        }
        return days;
    }

    private static void nextOff() {
        AlmanacHouse h = new AlmanacHouse();
        h.parish(SUNDAY, false);
        h.parish(0, true);
        h.feast(0, 7, 4, 0, 1);
        h.rule(1, 0, 0, 0);
        int feast = h.feastDay(0, 2001);
        Check.same("the next Sunday", h.nextOff(0, 5), 6);
        Check.same("behind a Sunday", h.nextOff(0, 6), 13);
        Check.same("a year on", h.nextOff(1, feast), h.feastDay(0, 2002));
        Check.same("the day ahead", h.nextOff(1, feast - 1), feast);
        Check.same("none up to the end", h.nextOff(1, 1499900), NONE);
        Check.same("none behind the last", h.nextOff(0, 1500000), NONE);
        Check.same("no day", h.nextOff(0, 1500001), OUTSIDE);
        Check.same("no parish", h.nextOff(2, -1), BAD);
        fourHundred();
    }

    private static void fourHundred() {
        AlmanacHouse h = new AlmanacHouse();
        h.parish(0, false);
        h.feast(0, 2, 29, 0, 1);
        h.rule(0, 0, 0, 0);
        int feast = h.feastDay(0, 2004);
        Check.same("400 days on", h.nextOff(0, feast - 400), feast);
        Check.same("401 days on", h.nextOff(0, feast - 401), NONE);
    }

    private static void inRow() {
        AlmanacHouse h = new AlmanacHouse();
        h.parish(WEEKEND, false);
        h.parish(127, false);
        Check.same("a weekend", h.inRow(0, 5), 2);
        Check.same("its second day", h.inRow(0, 6), 2);
        Check.same("not off", h.inRow(0, 7), 0);
        Check.same("all, 50 on either side", h.inRow(1, 1000), 101);
        Check.same("from day 0 on", h.inRow(1, 0), 51);
        Check.same("near it", h.inRow(1, 10), 61);
        Check.same("up to the last", h.inRow(1, 1500000), 51);
        Check.same("no day", h.inRow(1, -1), OUTSIDE);
        Check.same("no parish", h.inRow(2, -1), BAD);
    }
}
