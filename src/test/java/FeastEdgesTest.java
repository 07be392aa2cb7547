/** Promises 15 to 19: which rules are taken, where a feast has no day, and who moves for whom. */
public final class FeastEdgesTest {
    private static final int BAD = AlmanacHouse.BAD, NONE = AlmanacHouse.NONE, OUTSIDE = AlmanacHouse.OUTSIDE,
            FULL = AlmanacHouse.FULL, LAST = Scenes.LAST;
    private static final int FIXED = 0, WEEKDAY = 1, MOVABLE = 2, BEHIND = 3;
    private static final int LEAST = Integer.MIN_VALUE, MOST = Integer.MAX_VALUE;
    /** Feasts 0 to 4: 1 1 of rank 5, 1 1 of rank 3, the movable day of rank 9, 39 days behind that, a last Sunday. */
    private static final Scene FURNISHED = Scenes.furnished();
    private static final Scene SIXTY = Scenes.fullOfFeasts();

    public static void main(String[] args) {
        rulesAndRanks();
        fixedTaken();
        weekdayTaken();
        movableTaken();
        behindTaken();
        sixty();
        fixedDays();
        fixedFirstOfTwo();
        weekdayDays();
        movableDays();
        movableFeasts();
        behindDays();
        otherYears();
        rankZeroStays();
        ranksThenNumbers();
        movedOn();
        eachYearForItself();
        movedBeyondTheRange();
        askedOfFeasts();
        onADay();
        movableRefusals();
        Check.done();
    }

    private static void taken(int rule, int a, int b, int c, int rank) {
        Check.same("feast(" + rule + ", " + a + ", " + b + ", " + c + ", " + rank + ")",
                FURNISHED.house().feast(rule, a, b, c, rank), 5);
    }

    /** BAD changes nothing, and comes ahead of FULL. */
    private static void bad(int rule, int a, int b, int c, int rank) {
        String call = "feast(" + rule + ", " + a + ", " + b + ", " + c + ", " + rank + ")";
        FURNISHED.refuses(call, h -> h.feast(rule, a, b, c, rank), BAD);
        SIXTY.refuses(call, h -> h.feast(rule, a, b, c, rank), BAD);
    }

    /** "rule not 0 .. 3, rank" (0 .. 9). */
    private static void rulesAndRanks() {
        for (int rule : new int[] {-1, 4, LEAST, MOST}) {
            bad(rule, 1, 1, 1, 1);
        }
        for (int rank : new int[] {-1, 10, LEAST, MOST}) {
            bad(FIXED, 1, 1, 1, rank);
            bad(WEEKDAY, 1, 1, 1, rank);
            bad(MOVABLE, 1, 1, 1, rank);
            bad(BEHIND, 1, 1, 1, rank);
        }
        for (int rank : new int[] {0, 9}) {
            taken(FIXED, 1, 1, 1, rank);
            taken(WEEKDAY, 1, 1, 1, rank);
            taken(MOVABLE, 1, 1, 1, rank);
            taken(BEHIND, 1, 1, 1, rank);
        }
    }

    /** "of FIXED: a not 1 .. 53, b not 1 .. 200, c" (0 .. 6). */
    private static void fixedTaken() {
        taken(FIXED, 1, 1, 0, 5);
        taken(FIXED, 53, 200, 6, 5);
        for (int a : new int[] {0, 54, -1, LEAST, MOST}) {
            bad(FIXED, a, 1, 0, 5);
        }
        for (int b : new int[] {0, 201, -1, LEAST, MOST}) {
            bad(FIXED, 1, b, 0, 5);
        }
        for (int c : new int[] {-1, 7, 8, LEAST, MOST}) {
            bad(FIXED, 1, 1, c, 5);
        }
    }

    /** "of WEEKDAY: a not 1 .. 12, b, c": b 0 .. 6, c 1 .. 5 or -1. */
    private static void weekdayTaken() {
        taken(WEEKDAY, 1, 0, 1, 5);
        taken(WEEKDAY, 12, 6, 5, 5);
        taken(WEEKDAY, 12, 6, -1, 5);
        for (int a : new int[] {0, 13, -1, LEAST, MOST}) {
            bad(WEEKDAY, a, 1, 1, 5);
        }
        for (int b : new int[] {-1, 7, LEAST, MOST}) {
            bad(WEEKDAY, 1, b, 1, 5);
        }
        for (int c : new int[] {0, 6, -2, LEAST, MOST}) {
            bad(WEEKDAY, 1, 1, c, 5);
        }
    }

    /** "of MOVABLE: a not -60 .. 100, b not 0, 1"; "c of these two is not looked at". */
    private static void movableTaken() {
        taken(MOVABLE, -60, 0, 0, 5);
        taken(MOVABLE, 100, 1, 0, 5);
        taken(MOVABLE, 0, 1, LEAST, 5);
        taken(MOVABLE, 0, 1, MOST, 5);
        for (int a : new int[] {-61, 101, LEAST, MOST}) {
            bad(MOVABLE, a, 0, 0, 5);
        }
        for (int b : new int[] {-1, 2, LEAST, MOST}) {
            bad(MOVABLE, 0, b, 0, 5);
        }
    }

    /** "of BEHIND: no FEAST a, b not -40 .. 40"; "c of these two is not looked at". */
    private static void behindTaken() {
        taken(BEHIND, 0, -40, 0, 5);
        taken(BEHIND, 4, 40, 0, 5);
        taken(BEHIND, 0, 1, LEAST, 5);
        taken(BEHIND, 0, 1, MOST, 5);
        FURNISHED.refuses("behind itself", h -> h.feast(BEHIND, 5, 1, 0, 5), BAD);
        Scenes.empty().refuses("behind none", h -> h.feast(BEHIND, 0, 1, 0, 5), BAD);
        for (int a : new int[] {-1, 60, LEAST, MOST}) {
            bad(BEHIND, a, 1, 0, 5);
        }
        for (int b : new int[] {-41, 41, LEAST, MOST}) {
            bad(BEHIND, 0, b, 0, 5);
        }
    }

    private static void sixty() {
        AlmanacHouse h = new AlmanacHouse();
        for (int i = 0; i < 60; i++) {
            Check.same("feast number " + i, h.feast(FIXED, 1, 1, 0, 1), i);
        }
        SIXTY.refuses("a fixed one more", g -> g.feast(FIXED, 1, 1, 0, 1), FULL);
        SIXTY.refuses("a weekday more", g -> g.feast(WEEKDAY, 1, 1, 1, 1), FULL);
        SIXTY.refuses("a movable one more", g -> g.feast(MOVABLE, 1, 1, 0, 1), FULL);
        SIXTY.refuses("one behind another more", g -> g.feast(BEHIND, 59, 1, 0, 1), FULL);
        AlmanacHouse g = SIXTY.house();
        g.undo();
        Check.same("behind the one that is gone", g.feast(BEHIND, 59, 1, 0, 1), BAD);
        Check.same("one is taken back, one comes", g.feast(BEHIND, 58, 1, 0, 1), 59);
    }

    private static int dayOf(int rule, int a, int b, int c, int year) {
        AlmanacHouse h = new AlmanacHouse();
        h.feast(rule, a, b, c, 1);
        return h.feastDay(0, year);
    }

    /** "the first day (a number 0 .. 1500000, as ever) of the YEAR whose date in CALENDAR c .. is day b of MONTH a". */
    private static void fixedDays() {
        Check.same("on day 0", dayOf(FIXED, 3, 1, 0, 0), 0);
        Check.same("the day ahead of it", dayOf(FIXED, 2, 29, 0, 0), NONE);
        Check.same("on day 0 by 1", dayOf(FIXED, 3, 3, 1, 0), 0);
        Check.same("the day ahead of it by 1", dayOf(FIXED, 3, 2, 1, 0), NONE);
        Check.same("on the last day", dayOf(FIXED, 1, 10, 0, 4107), LAST);
        Check.same("the day behind it", dayOf(FIXED, 1, 11, 0, 4107), NONE);
        Check.same("a year ahead it is", dayOf(FIXED, 1, 11, 0, 4106), LAST + 1 - 365);
        Check.same("year 4108", dayOf(FIXED, 1, 1, 0, 4108), NONE);
        Check.same("on the first day of a year", dayOf(FIXED, 1, 1, 0, 2000), Scenes.NEW_YEAR_2000);
        Check.same("on the last day of a year", dayOf(FIXED, 12, 31, 0, 1999), Scenes.NEW_YEAR_2000 - 1);
        Check.same("29 2 of a leap year", dayOf(FIXED, 2, 29, 0, 2000), Scenes.NEW_YEAR_2000 + 59);
        Check.same("29 2 of none: it is not moved ahead", dayOf(FIXED, 2, 29, 0, 2001), NONE);
        Check.same("a month 13 of twelve", dayOf(FIXED, 13, 1, 0, 2000), NONE);
        Check.same("a day 8 of a week", dayOf(FIXED, 1, 8, 5, 2000), NONE);
        Check.same("a month 19 of the round", dayOf(FIXED, 19, 1, 6, 2000), NONE);
        Check.same("a day 200", dayOf(FIXED, 1, 200, 4, 2000), NONE);
    }

    /** By years of 360 or 354 days a date may come twice in one of 365: near both ends of it. */
    private static void fixedFirstOfTwo() {
        for (int day = 0; day < 12; day++) {
            for (int calendar : new int[] {3, 6}) {
                AlmanacHouse h = new AlmanacHouse();
                int n = h.toDay(0, 2001, 12, 31) - day;
                int month = h.fromDay(calendar, n, 1);
                int number = h.fromDay(calendar, n, 2);
                h.feast(FIXED, month, number, calendar, 1);
                Check.same("the first of two by " + calendar + ", to day " + day, h.feastDay(0, 2001),
                        firstOf(2001, calendar, month, number));
                Check.same("in the year before", h.feastDay(0, 2000), firstOf(2000, calendar, month, number));
            }
        }
    }

    private static int firstOf(int year, int calendar, int month, int day) {
        int first = new AlmanacHouse().toDay(0, year, 1, 1);
        int last = new AlmanacHouse().toDay(0, year, 12, 31);
        for (int n = first; n <= last; n++) {
            AlmanacHouse h = new AlmanacHouse();
            if (h.fromDay(calendar, n, 1) == month && h.fromDay(calendar, n, 2) == day) {
                return n;
            }
        }
        return NONE;
    }

    /** Every weekday of every month of three years, and of the years at both ends of the range, day by day. */
    private static void weekdayDays() {
        for (int year : new int[] {0, 1, 2000, 2001, 4106, 4107}) {
            for (int month = 1; month <= 12; month++) {
                for (int weekday = 0; weekday < 7; weekday++) {
                    for (int number : new int[] {1, 2, 3, 4, 5, -1}) {
                        Check.same(number + ". weekday " + weekday + " of month " + month + " of " + year,
                                dayOf(WEEKDAY, month, weekday, number, year), walked(year, month, weekday, number));
                    }
                }
            }
        }
    }

    private static int walked(int year, int month, int weekday, int number) {
        AlmanacHouse h = new AlmanacHouse();
        int days = h.monthLength(0, year, month);
        int first = h.toDay(0, year, month, 1);
        if (first == OUTSIDE) {
            return NONE;
        }
        int seen = 0;
        int found = NONE;
        for (int n = first; n < first + days; n++) {
            if (n % 7 == weekday) {
                seen++;
                found = seen == number || number == -1 ? n : found;
            }
        }
        return found > LAST ? NONE : found;
    }

    /** The movable day of each YEAR that has one, held against the plain house's, which goes another way. */
    private static void movableDays() {
        PlainHouse plain = new PlainHouse();
        for (int style = 0; style <= 1; style++) {
            for (int year = 0; year <= 5000; year++) {
                Check.same("movable(" + style + ", " + year + ")", new AlmanacHouse().movable(style, year),
                        plain.movable(style, year));
            }
        }
        AlmanacHouse h = new AlmanacHouse();
        Check.same("year 0 of style 0", h.movable(0, 0), 39);
        Check.same("year 0 of style 1", h.movable(1, 0), 39);
        Check.same("the last of style 0", h.movable(0, 4106) > 0 ? 1 : 0, 1);
        Check.same("the last of style 1", h.movable(1, 4106) > 0 ? 1 : 0, 1);
        Check.same("none in the last year", h.movable(0, 4107), OUTSIDE);
        Check.same("nor by style 1", h.movable(1, 4107), OUTSIDE);
    }

    private static void movableFeasts() {
        Check.same("39 days ahead in year 0", dayOf(MOVABLE, -39, 0, 0, 0), 0);
        Check.same("40 days ahead is none", dayOf(MOVABLE, -40, 0, 0, 0), NONE);
        Check.same("39 days ahead by style 1", dayOf(MOVABLE, -39, 1, 0, 0), 0);
        Check.same("40 days ahead by style 1", dayOf(MOVABLE, -40, 1, 0, 0), NONE);
        Check.same("100 behind", dayOf(MOVABLE, 100, 0, 0, 0), 139);
        Check.same("60 ahead", dayOf(MOVABLE, -60, 0, 0, 2000), new AlmanacHouse().movable(0, 2000) - 60);
        Check.same("none in the last year", dayOf(MOVABLE, -60, 0, 0, 4107), NONE);
    }

    /** "b days behind the day (as it is ahead of all moving) of FEAST a"; "one that would be beyond the range is none". */
    private static void behindDays() {
        AlmanacHouse h = new AlmanacHouse();
        h.feast(FIXED, 3, 1, 0, 9);
        h.feast(BEHIND, 0, -1, 0, 0);
        h.feast(BEHIND, 1, 1, 0, 0);
        h.feast(BEHIND, 0, 0, 0, 9);
        h.feast(BEHIND, 3, 1, 0, 9);
        h.feast(FIXED, 1, 10, 0, 0);
        h.feast(BEHIND, 5, 1, 0, 0);
        h.feast(BEHIND, 6, -1, 0, 0);
        h.feast(FIXED, 2, 29, 0, 0);
        h.feast(BEHIND, 8, 1, 0, 0);
        Check.same("ahead of day 0", h.feastDay(1, 0), NONE);
        Check.same("not moved either", h.moved(1, 0), NONE);
        Check.same("behind one that is none", h.feastDay(2, 0), NONE);
        Check.same("the day itself is taken", h.feastDay(3, 0), 1);
        Check.same("behind its day ahead of moving, and moved", h.feastDay(4, 0), 2);
        Check.same("by one day", h.moved(4, 0), 1);
        Check.same("behind the last day", h.feastDay(6, 4107), NONE);
        Check.same("ahead of that one", h.feastDay(7, 4107), NONE);
        Check.same("behind 29 2 of a year without", h.feastDay(9, 2001), NONE);
        Check.same("and of one with it", h.feastDay(9, 2004), h.toDay(0, 2004, 3, 1));
        Check.same("a year on from day 0 it is", h.feastDay(2, 1), 365);
    }

    /** A feast of one YEAR may lie in another: asked by its own YEAR it is there, on the day itself it is not. */
    private static void otherYears() {
        AlmanacHouse h = new AlmanacHouse();
        h.feast(FIXED, 12, 31, 0, 5);
        h.feast(BEHIND, 0, 1, 0, 5);
        h.feast(FIXED, 1, 1, 0, 5);
        h.feast(BEHIND, 2, -1, 0, 5);
        int newYear = Scenes.NEW_YEAR_2000;
        Check.same("in the next year", h.feastDay(1, 1999), newYear);
        Check.same("in the year before, moved by none of another year", h.feastDay(3, 2000), newYear - 1);
        Check.same("on the last day of 1999", h.feastOn(newYear - 1, 0), 0);
        Check.same("and no more", h.feastOn(newYear - 1, 1), NONE);
        Check.same("on the first day of 2000", h.feastOn(newYear, 0), 2);
        Check.same("and no more", h.feastOn(newYear, 1), NONE);
        Check.same("the year behind all days, its feast on the last but nine", h.feastDay(3, 4107), LAST - 10);
    }

    /** "those of RANK 0 at their days": they move for none, and none moves for them. */
    private static void rankZeroStays() {
        AlmanacHouse h = new AlmanacHouse();
        h.feast(FIXED, 6, 1, 0, 0);
        h.feast(FIXED, 6, 1, 0, 0);
        h.feast(FIXED, 6, 1, 0, 1);
        h.feast(FIXED, 6, 1, 0, 0);
        for (int feast = 0; feast < 4; feast++) {
            Check.same("feast " + feast, h.feastDay(feast, 2000), h.toDay(0, 2000, 6, 1));
            Check.same("not moved", h.moved(feast, 2000), 0);
        }
    }

    /** "the greatest RANK first, of the same the lesser number". */
    private static void ranksThenNumbers() {
        AlmanacHouse h = new AlmanacHouse();
        int[] ranks = {1, 9, 1, 8, 2, 9, 8};
        int[] moved = {5, 0, 6, 2, 4, 1, 3};
        for (int rank : ranks) {
            h.feast(FIXED, 6, 1, 0, rank);
        }
        for (int feast = 0; feast < ranks.length; feast++) {
            Check.same("feast " + feast + " of rank " + ranks[feast], h.moved(feast, 2000), moved[feast]);
        }
    }

    /** "the first day behind it on which no FEAST of a RANK above 0 was PLACED yet". */
    private static void movedOn() {
        AlmanacHouse h = new AlmanacHouse();
        h.feast(FIXED, 6, 1, 0, 9);
        h.feast(FIXED, 6, 3, 0, 9);
        h.feast(FIXED, 6, 4, 0, 9);
        h.feast(FIXED, 6, 1, 0, 5);
        h.feast(FIXED, 6, 1, 0, 4);
        h.feast(FIXED, 6, 2, 0, 3);
        h.feast(FIXED, 6, 5, 0, 2);
        h.feast(FIXED, 6, 6, 0, 1);
        h.feast(FIXED, 6, 8, 0, 0);
        h.feast(FIXED, 6, 8, 0, 1);
        int first = h.toDay(0, 2000, 6, 1);
        int[] due = {0, 2, 3, 1, 4, 5, 6, 7, 7, 8};
        for (int feast = 0; feast < due.length; feast++) {
            Check.same("feast " + feast, h.feastDay(feast, 2000), first + due[feast]);
        }
    }

    /** What is PLACED in a YEAR moves nothing in the next one, on whichever day it lies. */
    private static void eachYearForItself() {
        AlmanacHouse h = new AlmanacHouse();
        h.feast(FIXED, 12, 31, 0, 9);
        h.feast(FIXED, 12, 31, 0, 9);
        h.feast(FIXED, 1, 1, 0, 1);
        int newYear = Scenes.NEW_YEAR_2000;
        Check.same("moved into 2000", h.feastDay(1, 1999), newYear);
        Check.same("it moves none there", h.feastDay(2, 2000), newYear);
        Check.same("and is not on its day there", h.feastOn(newYear, 0), 2);
        Check.same("nor another", h.feastOn(newYear, 1), NONE);
    }

    /** "(A day beyond the range: it has none.)" */
    private static void movedBeyondTheRange() {
        AlmanacHouse h = new AlmanacHouse();
        h.feast(FIXED, 1, 9, 0, 5);
        h.feast(FIXED, 1, 9, 0, 4);
        h.feast(FIXED, 1, 9, 0, 3);
        h.feast(FIXED, 1, 10, 0, 2);
        h.feast(FIXED, 1, 10, 0, 0);
        Check.same("at its day", h.feastDay(0, 4107), LAST - 1);
        Check.same("moved to the last day", h.feastDay(1, 4107), LAST);
        Check.same("moved beyond it", h.feastDay(2, 4107), NONE);
        Check.same("not a number of days", h.moved(2, 4107), NONE);
        Check.same("nor the one whose day it is", h.feastDay(3, 4107), NONE);
        Check.same("of rank 0 it stays", h.feastDay(4, 4107), LAST);
        Check.same("a year ahead it is moved", h.moved(3, 4106), 2);
    }

    private static void askedOfFeasts() {
        for (int feast : new int[] {-1, 5, 60, LEAST, MOST}) {
            FURNISHED.refuses("feastDay of " + feast, h -> h.feastDay(feast, 2000), BAD);
            FURNISHED.refuses("moved of " + feast, h -> h.moved(feast, 2000), BAD);
            FURNISHED.refuses("feastDay: BAD, not NONE, of " + feast, h -> h.feastDay(feast, 5001), BAD);
            FURNISHED.refuses("moved: BAD, not NONE, of " + feast, h -> h.moved(feast, -1), BAD);
        }
        Scenes.empty().refuses("feastDay without feasts", h -> h.feastDay(0, 2000), BAD);
        Scenes.empty().refuses("moved without feasts", h -> h.moved(0, 2000), BAD);
        Check.same("feast 4", FURNISHED.house().feastDay(4, 2000) > 0 ? 1 : 0, 1);
        FURNISHED.refuses("it has none", h -> h.feastDay(0, 0), NONE);
        FURNISHED.refuses("and was not moved", h -> h.moved(0, 0), NONE);
    }

    /** "FEAST k (from 0 on)"; "OUTSIDE; NONE: no such one". */
    private static void onADay() {
        Scene many = new Scene("feasts on a day").then(h -> h.feast(FIXED, 1, 1, 0, 0)).then(h -> h.feast(FIXED, 1, 1, 0, 7))
                .then(h -> h.feast(FIXED, 1, 1, 0, 0)).then(h -> h.feast(FIXED, 1, 2, 0, 7));
        int day = Scenes.NEW_YEAR_2000;
        Check.same("the greatest rank", many.house().feastOn(day, 0), 1);
        Check.same("then the lesser number", many.house().feastOn(day, 1), 0);
        Check.same("the last one", many.house().feastOn(day, 2), 2);
        for (int k : new int[] {3, -1, LEAST, MOST}) {
            many.refuses("feast " + k, h -> h.feastOn(day, k), NONE);
            many.refuses("OUTSIDE, not NONE, " + k, h -> h.feastOn(-1, k), OUTSIDE);
            many.refuses("OUTSIDE behind, not NONE, " + k, h -> h.feastOn(LAST + 1, k), OUTSIDE);
        }
        many.refuses("the day ahead", h -> h.feastOn(day - 1, 0), NONE);
        many.refuses("two days behind", h -> h.feastOn(day + 2, 0), NONE);
        Scenes.empty().refuses("no feasts", h -> h.feastOn(0, 0), NONE);
        Scenes.empty().refuses("no feasts on the last day", h -> h.feastOn(LAST, 0), NONE);
    }

    private static void movableRefusals() {
        for (int style : new int[] {-1, 2, LEAST, MOST}) {
            FURNISHED.refuses("style " + style, h -> h.movable(style, 2000), BAD);
            FURNISHED.refuses("BAD, not NONE, of " + style, h -> h.movable(style, 5001), BAD);
            FURNISHED.refuses("BAD, not OUTSIDE, of " + style, h -> h.movable(style, 4107), BAD);
        }
        FURNISHED.refuses("NONE, not OUTSIDE", h -> h.movable(0, 5001), NONE);
        FURNISHED.refuses("OUTSIDE", h -> h.movable(1, 4107), OUTSIDE);
    }
}
