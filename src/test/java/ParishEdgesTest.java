/** Promises 24 to 29: how many parishes and rules, how far rules reach, who bridges, and how far calls look. */
public final class ParishEdgesTest {
    private static final int BAD = AlmanacHouse.BAD, NONE = AlmanacHouse.NONE, OUTSIDE = AlmanacHouse.OUTSIDE,
            FULL = AlmanacHouse.FULL, LAST = Scenes.LAST;
    private static final int LEAST = Integer.MIN_VALUE, MOST = Integer.MAX_VALUE, NEW_YEAR = Scenes.NEW_YEAR_2000;
    /** Parish 0 has weekends and bridges, 1 has Mondays; five feasts, a rule for each parish. */
    private static final Scene FURNISHED = Scenes.furnished();
    private static final Scene EIGHT = Scenes.fullOfParishes();

    public static void main(String[] args) {
        weeklyTaken();
        eightParishes();
        rulesTaken();
        fortyEightRules();
        weeklyDays();
        withinAheadAndBehind();
        placedNotByRule();
        yearsBeside();
        rangeOfFreeDays();
        twoYearsBehind();
        twoYearsAhead();
        bridges();
        bridgesOverTheYear();
        bridgesAtTheEnds();
        noParish();
        workedDays();
        workedRefusals();
        nextFourHundred();
        fiftyAround();
        Check.done();
    }

    /** "BAD: weekly not 0 .. 127". */
    private static void weeklyTaken() {
        Check.same("no weekly day", new AlmanacHouse().parish(0, true), 0);
        Check.same("all of them", new AlmanacHouse().parish(127, false), 0);
        for (int weekly : new int[] {-1, 128, 255, LEAST, MOST}) {
            FURNISHED.refuses("weekly " + weekly, h -> h.parish(weekly, true), BAD);
            EIGHT.refuses("BAD, not FULL: weekly " + weekly, h -> h.parish(weekly, false), BAD);
        }
    }

    private static void eightParishes() {
        AlmanacHouse h = new AlmanacHouse();
        for (int i = 0; i < 8; i++) {
            Check.same("parish " + i, h.parish(i, true), i);
        }
        EIGHT.refuses("a ninth", g -> g.parish(0, false), FULL);
        AlmanacHouse g = EIGHT.house();
        g.undo();
        Check.same("no parish 7 any more", g.isOff(7, 5), BAD);
        Check.same("one is taken back, one comes", g.parish(127, false), 7);
        Check.same("as told now", g.isOff(7, 5), 1);
    }

    /** "BAD: also ahead, behind not 0 .. 10". */
    private static void rulesTaken() {
        Check.same("none ahead, none behind", FURNISHED.house().rule(1, 4, 0, 0), 2);
        Check.same("ten ahead, ten behind", FURNISHED.house().rule(0, 0, 10, 10), 2);
        Scene full = Scenes.fullOfRules();
        for (int wrong : new int[] {-1, 11, LEAST, MOST}) {
            FURNISHED.refuses("ahead " + wrong, h -> h.rule(0, 0, wrong, 0), BAD);
            FURNISHED.refuses("behind " + wrong, h -> h.rule(0, 0, 0, wrong), BAD);
            full.refuses("BAD, not FULL: ahead " + wrong, h -> h.rule(0, 0, wrong, 0), BAD);
            full.refuses("BAD, not FULL: behind " + wrong, h -> h.rule(0, 0, 0, wrong), BAD);
        }
        for (int parish : new int[] {-1, 2, 8, LEAST, MOST}) {
            FURNISHED.refuses("rule of parish " + parish, h -> h.rule(parish, 0, 0, 0), BAD);
            full.refuses("BAD, not FULL: parish " + parish, h -> h.rule(parish, 0, 0, 0), BAD);
        }
        for (int feast : new int[] {-1, 5, 60, LEAST, MOST}) {
            FURNISHED.refuses("rule of feast " + feast, h -> h.rule(0, feast, 0, 0), BAD);
            full.refuses("BAD, not FULL: feast " + feast, h -> h.rule(0, feast, 0, 0), BAD);
        }
        Scenes.empty().refuses("nothing to make a rule of", h -> h.rule(0, 0, 0, 0), BAD);
    }

    /** "RULES (48 in all)"; a call answers how many its own parish has. */
    private static void fortyEightRules() {
        AlmanacHouse h = new AlmanacHouse();
        h.feast(0, 1, 1, 0, 1);
        h.parish(0, false);
        h.parish(0, false);
        for (int i = 1; i <= 47; i++) {
            Check.same("rule " + i, h.rule(0, 0, 0, 0), i);
        }
        Check.same("the 48th, the other's first", h.rule(1, 0, 0, 0), 1);
        Check.same("in all", h.count(4), 48);
        Check.same("a 49th", h.rule(1, 0, 0, 0), FULL);
        Check.same("of the other", h.rule(0, 0, 0, 0), FULL);
        Scene full = Scenes.fullOfRules();
        full.refuses("a rule more for 0", g -> g.rule(0, 0, 0, 0), FULL);
        full.refuses("a rule more for 1", g -> g.rule(1, 0, 10, 10), FULL);
        AlmanacHouse g = full.house();
        g.undo();
        Check.same("one is taken back, one comes", g.rule(0, 0, 0, 0), 25);
    }

    private static void weeklyDays() {
        for (int bit = 0; bit < 7; bit++) {
            AlmanacHouse h = new AlmanacHouse();
            h.parish(1 << bit, false);
            for (int n = 0; n < 14; n++) {
                Check.same("weekday " + n % 7 + " by bit " + bit, h.isOff(0, n), n % 7 == bit ? 1 : 0);
            }
        }
    }

    /** A parish without weekly days that has a feast on a day of month 6 with a rule. */
    private static AlmanacHouse ruled(int ahead, int behind) {
        AlmanacHouse h = new AlmanacHouse();
        h.parish(0, false);
        h.feast(0, 6, 15, 0, 1);
        h.rule(0, 0, ahead, behind);
        return h;
    }

    private static void withinAheadAndBehind() {
        int[][] reaches = {{0, 0}, {10, 10}, {10, 0}, {0, 10}, {1, 2}};
        for (int[] reach : reaches) {
            AlmanacHouse h = ruled(reach[0], reach[1]);
            int n = h.feastDay(0, 2000);
            for (int i = -12; i <= 12; i++) {
                boolean off = i >= -reach[0] && i <= reach[1];
                Check.same(reach[0] + " ahead, " + reach[1] + " behind: " + i, h.isOff(0, n + i), off ? 1 : 0);
            }
        }
    }

    /** The day at which it is PLACED counts, not the one of its RULE; and none where it has none. */
    private static void placedNotByRule() {
        AlmanacHouse h = new AlmanacHouse();
        h.parish(0, false);
        h.feast(0, 6, 15, 0, 9);
        h.feast(0, 6, 15, 0, 1);
        h.feast(0, 2, 29, 0, 1);
        h.rule(0, 1, 0, 0);
        h.rule(0, 2, 10, 10);
        int n = h.toDay(0, 2001, 6, 15);
        Check.same("its own day", h.isOff(0, n), 0);
        Check.same("the day to which it was moved", h.isOff(0, n + 1), 1);
        Check.same("no leap day, no day off", h.worked(0, h.toDay(0, 2001, 2, 1), h.toDay(0, 2001, 3, 31)), 59);
    }

    /** "of the YEAR in which it is, the one before, or the next one". */
    private static void yearsBeside() {
        AlmanacHouse h = new AlmanacHouse();
        h.parish(0, false);
        h.parish(0, false);
        h.feast(0, 1, 1, 0, 1);
        h.feast(0, 12, 31, 0, 1);
        h.rule(0, 0, 10, 0);
        h.rule(1, 1, 0, 10);
        for (int i = -12; i <= 12; i++) {
            Check.same("ahead of the next year's: " + i, h.isOff(0, NEW_YEAR + i), i >= -10 && i <= 0 ? 1 : 0);
            Check.same("behind the year's before: " + i, h.isOff(1, NEW_YEAR - 1 + i), i >= 0 && i <= 10 ? 1 : 0);
        }
    }

    /** "(0 at least; of YEARS that are there)", and at both ends of the row of days. */
    private static void rangeOfFreeDays() {
        AlmanacHouse h = new AlmanacHouse();
        h.parish(0, false);
        h.parish(0, false);
        h.feast(0, 3, 1, 0, 1);
        h.feast(0, 1, 10, 0, 1);
        h.rule(0, 0, 10, 10);
        h.rule(1, 1, 10, 10);
        Check.same("from day 0 on", h.worked(0, 0, 99), 89);
        Check.same("day 0", h.isOff(0, 0), 1);
        Check.same("day 10", h.isOff(0, 10), 1);
        Check.same("day 11", h.isOff(0, 11), 0);
        Check.same("up to the last day", h.worked(1, LAST - 99, LAST), 89);
        Check.same("the last day", h.isOff(1, LAST), 1);
        Check.same("ten ahead of it", h.isOff(1, LAST - 10), 1);
        Check.same("eleven ahead of it", h.isOff(1, LAST - 11), 0);
        Check.same("1 3 of the year behind all days frees none", h.isOff(0, LAST), 0);
        Check.same("10 1 of year 0 is no day", h.isOff(1, 0), 0);
    }

    /** Led on from feast to feast one lies two years away: there it frees nothing. */
    private static void twoYearsBehind() {
        AlmanacHouse h = new AlmanacHouse();
        h.parish(0, false);
        h.feast(0, 12, 31, 0, 9);
        for (int i = 1; i <= 10; i++) {
            h.feast(3, i - 1, 40, 0, 9);
        }
        h.rule(0, 9, 0, 10);
        h.rule(0, 10, 10, 0);
        int next = h.feastDay(9, 1999);
        Check.same("360 days on, in the next year", next, NEW_YEAR + 359);
        Check.same("that day is free", h.isOff(0, next), 1);
        Check.same("the last day of that year", h.isOff(0, NEW_YEAR + 365), 1);
        Check.same("the first of the year behind it", h.isOff(0, NEW_YEAR + 366), 0);
        int far = h.feastDay(10, 1999);
        Check.same("400 days on", far, NEW_YEAR + 399);
        Check.same("that day is not free", h.isOff(0, far), 0);
        Check.same("nor the days ahead", h.isOff(0, far - 10), 0);
    }

    /** The same the other way, led ahead. */
    private static void twoYearsAhead() {
        AlmanacHouse h = new AlmanacHouse();
        h.parish(0, false);
        h.feast(0, 1, 1, 0, 9);
        for (int i = 1; i <= 10; i++) {
            h.feast(3, i - 1, -40, 0, 9);
        }
        h.rule(0, 9, 10, 0);
        h.rule(0, 10, 0, 10);
        int before = h.feastDay(9, 2001);
        Check.same("360 days ahead, in the year before", before, NEW_YEAR + 6);
        Check.same("that day is free", h.isOff(0, before), 1);
        Check.same("the first day of that year", h.isOff(0, NEW_YEAR), 1);
        Check.same("the last of the year ahead of it", h.isOff(0, NEW_YEAR - 1), 0);
        Check.same("in a long stretch, too", h.worked(0, NEW_YEAR - 300, NEW_YEAR + 299), 600 - 7);
        int far = h.feastDay(10, 2001);
        Check.same("400 days ahead", far, NEW_YEAR - 34);
        Check.same("that day is not free", h.isOff(0, far), 0);
        Check.same("nor the days behind", h.isOff(0, far + 10), 0);
    }

    /** "the days before it and behind it both are FREE": free, not only off. */
    private static void bridges() {
        AlmanacHouse h = new AlmanacHouse();
        h.parish(1 | 4, true);
        h.parish(1 | 4, false);
        h.parish(1 | 8, true);
        Check.same("between two", h.isOff(0, 8), 1);
        Check.same("the parish does not bridge", h.isOff(1, 8), 0);
        Check.same("two between: the first", h.isOff(2, 8), 0);
        Check.same("two between: the second", h.isOff(2, 9), 0);
        Check.same("behind one only", h.isOff(0, 10), 0);
        Check.same("ahead of one only", h.isOff(0, 13), 0);
        AlmanacHouse g = new AlmanacHouse();
        g.parish(1 | 4, true);
        g.feast(0, 3, 12, 0, 1);
        g.rule(0, 0, 0, 0);
        Check.same("Friday is a feast", g.isOff(0, 11), 1);
        Check.same("between a weekly day and a feast", g.isOff(0, 10), 1);
        Check.same("a bridge bridges no more", g.isOff(0, 12), 0);
    }

    private static void bridgesOverTheYear() {
        AlmanacHouse h = new AlmanacHouse();
        h.parish(0, true);
        h.feast(0, 12, 30, 0, 1);
        h.feast(0, 1, 1, 0, 1);
        h.feast(0, 1, 3, 0, 1);
        h.rule(0, 0, 0, 0);
        h.rule(0, 1, 0, 0);
        h.rule(0, 2, 0, 0);
        for (int i = -4; i <= 4; i++) {
            Check.same("day " + i + " from the new year on", h.isOff(0, NEW_YEAR + i), i >= -2 && i <= 2 ? 1 : 0);
        }
        Check.same("five in a row", h.inRow(0, NEW_YEAR - 1), 5);
    }

    /** What is no day is not free: neither end of the row of days is bridged, whatever its weekday were. */
    private static void bridgesAtTheEnds() {
        AlmanacHouse h = new AlmanacHouse();
        h.parish(2 | 64, true);
        Check.same("day 0, a Monday", h.isOff(0, 0), 0);
        Check.same("a week on", h.isOff(0, 7), 1);
        h.parish(16 | 64, true);
        Check.same("the last day, a Saturday", h.isOff(1, LAST), 0);
        Check.same("a week ahead", h.isOff(1, LAST - 7), 1);
        Check.same("day 0 in a row", h.inRow(0, 0), 0);
        Check.same("worked on day 0", h.worked(0, 0, 0), 1);
        Check.same("the next one off behind day 0", h.nextOff(0, 0), 1);
    }

    /** "BAD; OUTSIDE", BAD first. */
    private static void noParish() {
        for (int parish : new int[] {-1, 2, 8, LEAST, MOST}) {
            for (int n : new int[] {5, -1, LAST + 1}) {
                FURNISHED.refuses("isOff(" + parish + ", " + n + ")", h -> h.isOff(parish, n), BAD);
                FURNISHED.refuses("nextOff(" + parish + ", " + n + ")", h -> h.nextOff(parish, n), BAD);
                FURNISHED.refuses("inRow(" + parish + ", " + n + ")", h -> h.inRow(parish, n), BAD);
                FURNISHED.refuses("worked(" + parish + ", " + n + ")", h -> h.worked(parish, n, n), BAD);
            }
        }
        Scenes.empty().refuses("isOff without parishes", h -> h.isOff(0, 5), BAD);
        Scenes.empty().refuses("nextOff without parishes", h -> h.nextOff(0, 5), BAD);
        Scenes.empty().refuses("inRow without parishes", h -> h.inRow(0, 5), BAD);
        Scenes.empty().refuses("worked without parishes", h -> h.worked(0, 5, 6), BAD);
    }

    private static void workedDays() {
        AlmanacHouse h = new AlmanacHouse();
        h.parish(0, false);
        h.parish(127, false);
        h.parish(85, true);
        Check.same("one day", h.worked(0, 70, 70), 1);
        Check.same("one day off", h.worked(1, 70, 70), 0);
        Check.same("800 days", h.worked(0, 70, 869), 800);
        Check.same("800 days off", h.worked(1, 70, 869), 0);
        Check.same("800 days, the first a bridge", h.worked(2, 71, 870), 0);
        Check.same("800 days, the last a bridge", h.worked(2, 70, 869), 0);
        Check.same("the first 800", h.worked(0, 0, 799), 800);
        Check.same("the last 800", h.worked(0, LAST - 799, LAST), 800);
    }

    /** "BAD: also to is less than from, or more than 800 days; OUTSIDE". */
    private static void workedRefusals() {
        FURNISHED.refuses("801 days", h -> h.worked(0, 70, 870), BAD);
        FURNISHED.refuses("to is one less", h -> h.worked(0, 70, 69), BAD);
        FURNISHED.refuses("all days", h -> h.worked(0, 0, LAST), BAD);
        FURNISHED.refuses("as far as can be", h -> h.worked(0, LEAST, MOST), BAD);
        FURNISHED.refuses("as far back as can be", h -> h.worked(0, MOST, LEAST), BAD);
        FURNISHED.refuses("BAD, not OUTSIDE: to is less", h -> h.worked(0, -1, -2), BAD);
        FURNISHED.refuses("BAD, not OUTSIDE: to is less, behind", h -> h.worked(0, LAST + 2, LAST + 1), BAD);
        FURNISHED.refuses("BAD, not OUTSIDE: 801 days", h -> h.worked(0, -1, 799), BAD);
        FURNISHED.refuses("800 days, one of them no day", h -> h.worked(0, -1, 798), OUTSIDE);
        FURNISHED.refuses("800 days, the last no day", h -> h.worked(0, LAST - 798, LAST + 1), OUTSIDE);
        FURNISHED.refuses("801 days, the last no day", h -> h.worked(0, LAST - 799, LAST + 1), BAD);
    }

    /** "NONE: none of the next 400 is (within the range)". */
    private static void nextFourHundred() {
        Scene leap = new Scene("leap days off").then(h -> h.parish(0, true)).then(h -> h.parish(32, false))
                .then(h -> h.feast(0, 2, 29, 0, 1)).then(h -> h.rule(0, 0, 0, 0));
        int feast = leap.house().feastDay(0, 2000);
        Check.same("the next day", leap.house().nextOff(0, feast - 1), feast);
        Check.same("400 days on", leap.house().nextOff(0, feast - 400), feast);
        leap.refuses("401 days on", h -> h.nextOff(0, feast - 401), NONE);
        leap.refuses("behind it, not itself", h -> h.nextOff(0, feast), NONE);
        Check.same("from a Saturday to the next", leap.house().nextOff(1, 5), 12);
        Check.same("from the day behind it", leap.house().nextOff(1, 6), 12);
        Check.same("up to the last day, a Saturday", leap.house().nextOff(1, LAST - 1), LAST);
        leap.refuses("none behind the last day", h -> h.nextOff(1, LAST), NONE);
        leap.refuses("none of the last days", h -> h.nextOff(0, LAST - 5), NONE);
        AlmanacHouse h = new AlmanacHouse();
        h.parish(1 | 4, true);
        Check.same("a bridge is off", h.nextOff(0, 7), 8);
    }

    /** "up to 50 ahead of it and 50 behind it". */
    private static void fiftyAround() {
        AlmanacHouse h = new AlmanacHouse();
        h.parish(127, false);
        h.parish(85, true);
        Check.same("all days off", h.inRow(0, 700), 101);
        Check.same("by bridges", h.inRow(1, 700), 101);
        Check.same("day 0", h.inRow(0, 0), 51);
        Check.same("day 49", h.inRow(0, 49), 100);
        Check.same("day 50", h.inRow(0, 50), 101);
        Check.same("day 51", h.inRow(0, 51), 101);
        Check.same("the last day", h.inRow(0, LAST), 51);
        Check.same("49 ahead of it", h.inRow(0, LAST - 49), 100);
        Check.same("50 ahead of it", h.inRow(0, LAST - 50), 101);
        AlmanacHouse g = ruled(10, 10);
        int n = g.feastDay(0, 2000);
        Check.same("21 in a row, from its first day", g.inRow(0, n - 10), 21);
        Check.same("from its last day", g.inRow(0, n + 10), 21);
        Check.same("the day ahead of them", g.inRow(0, n - 11), 0);
        Check.same("the day behind them", g.inRow(0, n + 11), 0);
        fiftyAndNoMore();
    }

    /** Nine rules in a chain of feasts 20 days apart give a row of 181 days. */
    private static void fiftyAndNoMore() {
        AlmanacHouse h = new AlmanacHouse();
        h.parish(0, false);
        h.feast(0, 3, 1, 0, 1);
        for (int i = 0; i < 9; i++) {
            h.rule(0, i, 10, 10);
            h.feast(3, i, 20, 0, 1);
        }
        int first = h.feastDay(0, 2000) - 10;
        Check.same("the first of 181", h.inRow(0, first), 51);
        Check.same("the 50th", h.inRow(0, first + 49), 100);
        Check.same("the 51st", h.inRow(0, first + 50), 101);
        Check.same("the 52nd", h.inRow(0, first + 51), 101);
        Check.same("the last but 50", h.inRow(0, first + 130), 101);
        Check.same("the last but 49", h.inRow(0, first + 131), 100);
        Check.same("the last of 181", h.inRow(0, first + 180), 51);
        Check.same("the day behind", h.inRow(0, first + 181), 0);
    }
}
