/** Promises 15 to 19: feasts by rules, moved by rank. */
public final class FeastsTest {
    private static final int BAD = AlmanacHouse.BAD, NONE = AlmanacHouse.NONE, OUTSIDE = AlmanacHouse.OUTSIDE,
            FULL = AlmanacHouse.FULL;

    public static void main(String[] args) {
        refusals();
        full();
        fixed();
        weekdays();
        movable();
        behind();
        placed();
        farAway();
        onADay();
        lastDay();
        Check.done();
    }

    private static void refusals() {
        AlmanacHouse h = new AlmanacHouse();
        Check.same("rule 4", h.feast(4, 1, 1, 1, 1), BAD);
        Check.same("rule -1", h.feast(-1, 1, 1, 1, 1), BAD);
        Check.same("rank 10", h.feast(0, 1, 1, 1, 10), BAD);
        Check.same("rank -1", h.feast(0, 1, 1, 1, -1), BAD);
        Check.same("month 0", h.feast(0, 0, 1, 1, 1), BAD);
        Check.same("month 54", h.feast(0, 54, 1, 1, 1), BAD);
        Check.same("day 0", h.feast(0, 1, 0, 1, 1), BAD);
        Check.same("day 201", h.feast(0, 1, 201, 1, 1), BAD);
        Check.same("calendar 7", h.feast(0, 1, 1, 7, 1), BAD);
        Check.same("calendar -1", h.feast(0, 1, 1, -1, 1), BAD);
        Check.same("month 13", h.feast(1, 13, 0, 1, 1), BAD);
        Check.same("weekday month 0", h.feast(1, 0, 0, 1, 1), BAD);
        Check.same("weekday 7", h.feast(1, 1, 7, 1, 1), BAD);
        Check.same("weekday -1", h.feast(1, 1, -1, 1, 1), BAD);
        Check.same("the 0th", h.feast(1, 1, 0, 0, 1), BAD);
        Check.same("the 6th", h.feast(1, 1, 0, 6, 1), BAD);
        Check.same("the last but one", h.feast(1, 1, 0, -2, 1), BAD);
        Check.same("61 ahead", h.feast(2, -61, 0, 0, 1), BAD);
        Check.same("101 behind", h.feast(2, 101, 0, 0, 1), BAD);
        Check.same("style 2", h.feast(2, 0, 2, 0, 1), BAD);
        Check.same("style -1", h.feast(2, 0, -1, 0, 1), BAD);
        Check.same("behind none", h.feast(3, 0, 0, 0, 1), BAD);
        Check.same("behind -1", h.feast(3, -1, 0, 0, 1), BAD);
        Check.same("none yet", h.count(2), 0);
        Check.same("c is not looked at", h.feast(2, 100, 1, 99, 9), 0);
        Check.same("nor here", h.feast(3, 0, 40, -99, 0), 1);
        Check.same("behind itself", h.feast(3, 2, 1, 0, 1), BAD);
        Check.same("41 behind", h.feast(3, 0, 41, 0, 1), BAD);
        Check.same("41 ahead", h.feast(3, 0, -41, 0, 1), BAD);
        Check.same("no feast 2", h.feastDay(2, -1), BAD);
        Check.same("no feast -1", h.feastDay(-1, 5), BAD);
        Check.same("not moved either", h.moved(2, 5), BAD);
        Check.same("no year", h.feastDay(0, 5001), NONE);
        Check.same("no year -1", h.moved(0, -1), NONE);
    }

    private static void full() {
        AlmanacHouse h = new AlmanacHouse();
        for (int i = 0; i < 60; i++) {
            Check.same("feast " + i, h.feast(0, 12, 25, 0, 5), i);
        }
        Check.same("60 are all", h.feast(0, 12, 25, 0, 5), FULL);
        Check.same("BAD ahead of FULL", h.feast(0, 12, 25, 7, 5), BAD);
        Check.same("the last is moved by 59", h.moved(59, 2000), 59);
        Check.same("into the next year", h.fromDay(0, h.feastDay(59, 2000), 0), 2001);
        Check.same("of its own year only", h.feastOn(h.feastDay(59, 2000), 0), NONE);
        Check.same("taken back", h.undo(), 59);
        Check.same("and no more", h.feastDay(59, 2000), BAD);
        Check.same("another", h.feast(0, 12, 24, 0, 9), 59);
        Check.same("greater rank, own day", h.moved(59, 2000), 0);
    }

    private static void fixed() {
        AlmanacHouse h = new AlmanacHouse();
        h.feast(0, 2, 29, 0, 1);
        h.feast(0, 1, 1, 6, 1);
        h.feast(0, 13, 6, 2, 1);
        h.feast(0, 1, 5, 0, 1);
        h.feast(0, 53, 7, 5, 1);
        h.feast(0, 1, 200, 3, 1);
        Check.same("a leap day", h.feastDay(0, 2024), h.toDay(0, 2024, 2, 29));
        Check.same("no leap day", h.feastDay(0, 2023), NONE);
        Check.same("of the round, day 0", h.feastDay(1, 0), 0);
        Check.same("the sixth day", h.fromDay(2, h.feastDay(2, h.fromDay(0, 1095, 0)), 2), 6);
        Check.same("ahead of day 0", h.feastDay(3, 0), NONE);
        Check.same("in the last days", h.feastDay(3, 4107), 1499995);
        Check.same("behind the last day", h.feastDay(3, 4108), NONE);
        Check.same("week 53", h.feastDay(4, 1), h.toDay(5, 0, 53, 7));
        Check.same("no such day at all", h.feastDay(5, 2000), NONE);
        Check.same("nor moved", h.moved(5, 2000), NONE);
        int year = 2008;
        int first = h.toDay(0, year, 1, 1);
        h.feast(0, h.fromDay(3, first, 1), h.fromDay(3, first, 2), 3, 9);
        Check.same("the first of two", h.feastDay(6, year), first);
    }

    private static void weekdays() {
        AlmanacHouse h = new AlmanacHouse();
        h.feast(1, 2, 3, 5, 1);
        h.feast(1, 2, 3, -1, 1);
        h.feast(1, 2, 3, 1, 0);
        h.feast(1, 1, 6, -1, 1);
        h.feast(1, 1, 0, 1, 0);
        int first = h.feastDay(2, 2023);
        Check.same("a Thursday", first % 7, 3);
        Check.same("of February", h.fromDay(0, first, 1), 2);
        Check.same("the first", h.fromDay(0, first - 7, 1), 1);
        Check.same("the last is the fourth", h.feastDay(1, 2023), first + 21);
        Check.same("no fifth", h.feastDay(0, 2023), NONE);
        Check.same("in year 0 ahead of day 0", h.feastDay(3, 0), NONE);
        Check.same("in the last year behind the last day", h.feastDay(3, 4107), NONE);
        Check.same("the first Monday of it", h.feastDay(4, 4107) % 7, 0);
        int leap = 0;
        for (int year = 4; year <= 40; year += 4) {
            if (h.feastDay(0, year) != NONE) {
                leap++;
                Check.same("a fifth one", h.feastDay(0, year), h.toDay(0, year, 2, 29));
            }
        }
        Check.same("five Thursdays in two of ten", leap >= 1 ? 1 : 0, 1);
    }

    private static void movable() {
        AlmanacHouse h = new AlmanacHouse();
        Check.same("2024", h.movable(0, 2024), h.toDay(0, 2024, 3, 31));
        Check.same("2000", h.movable(0, 2000), h.toDay(0, 2000, 4, 23));
        Check.same("the earliest", h.movable(0, 1818), h.toDay(0, 1818, 3, 22));
        Check.same("the latest", h.movable(0, 1943), h.toDay(0, 1943, 4, 25));
        Check.same("h 29", h.movable(0, 1981), h.toDay(0, 1981, 4, 19));
        Check.same("h 28, g above 10", h.movable(0, 1954), h.toDay(0, 1954, 4, 18));
        Check.same("2024 old", h.movable(1, 2024), h.toDay(0, 2024, 5, 5));
        Check.same("2023 old", h.movable(1, 2023), h.toDay(0, 2023, 4, 16));
        Check.same("beyond the range", h.movable(0, 4107), OUTSIDE);
        Check.same("style 2", h.movable(2, -1), BAD);
        Check.same("style -1", h.movable(-1, 5), BAD);
        Check.same("no year", h.movable(1, 5001), NONE);
        Check.same("year -1", h.movable(0, -1), NONE);
        h.feast(2, 49, 0, 0, 9);
        h.feast(2, -60, 1, 0, 9);
        Check.same("49 behind", h.feastDay(0, 2024), h.movable(0, 2024) + 49);
        Check.same("60 ahead", h.feastDay(1, 2024), h.movable(1, 2024) - 60);
        Check.same("ahead of day 0", h.feastDay(1, 0), NONE);
        Check.same("in no year", h.feastDay(0, 4107), NONE);
    }

    private static void behind() {
        AlmanacHouse h = new AlmanacHouse();
        h.feast(0, 12, 25, 0, 9);
        h.feast(0, 12, 25, 0, 3);
        h.feast(3, 1, 12, 0, 9);
        h.feast(3, 2, -40, 0, 0);
        h.feast(0, 3, 1, 0, 0);
        h.feast(3, 4, -1, 0, 0);
        h.feast(3, 5, 1, 0, 0);
        int christmas = h.toDay(0, 2024, 12, 25);
        Check.same("moved", h.feastDay(1, 2024), christmas + 1);
        Check.same("behind the day ahead of moving", h.feastDay(2, 2024), christmas + 12);
        Check.same("not moved", h.moved(2, 2024), 0);
        Check.same("ahead of one in another year", h.feastDay(3, 2024), christmas - 28);
        Check.same("ahead of day 0", h.feastDay(5, 0), NONE);
        Check.same("behind none is none", h.feastDay(6, 0), NONE);
        Check.same("behind one", h.feastDay(6, 1), h.toDay(0, 1, 3, 1));
    }

    private static void placed() {
        AlmanacHouse h = new AlmanacHouse();
        h.feast(0, 6, 10, 0, 0);
        h.feast(0, 6, 10, 0, 1);
        h.feast(0, 6, 10, 0, 9);
        h.feast(0, 6, 10, 0, 1);
        h.feast(0, 6, 11, 0, 5);
        h.feast(0, 6, 10, 0, 0);
        h.feast(0, 6, 12, 0, 1);
        int day = h.toDay(0, 1999, 6, 10);
        int[] due = {0, 2, 0, 3, 1, 0, 4};
        for (int f = 0; f < due.length; f++) {
            Check.same("feast " + f, h.feastDay(f, 1999), day + due[f]);
        }
        Check.same("moved by 2", h.moved(1, 1999), 2);
        Check.same("moved by 2 as well", h.moved(6, 1999), 2);
        Check.same("rank 0 is not moved", h.moved(5, 1999), 0);
        Check.same("greatest rank first", h.feastOn(day, 0), 2);
        Check.same("then rank 0 by number", h.feastOn(day, 1), 0);
        Check.same("and the other", h.feastOn(day, 2), 5);
        Check.same("no more", h.feastOn(day, 3), NONE);
        Check.same("the next day", h.feastOn(day + 1, 0), 4);
    }

    /** Led on and on, a feast lies years away, and is on no day of its own year. */
    private static void farAway() {
        AlmanacHouse h = new AlmanacHouse();
        h.feast(0, 12, 31, 0, 9);
        for (int i = 1; i < 40; i++) {
            h.feast(3, i - 1, 40, 0, 9);
        }
        int last = h.feastDay(39, 2000);
        Check.same("39 times 40 days", last, h.toDay(0, 2000, 12, 31) + 1560);
        Check.same("on no day there", h.feastOn(last, 0), NONE);
    }

    private static void onADay() {
        AlmanacHouse h = new AlmanacHouse();
        Check.same("no feasts", h.feastOn(0, 0), NONE);
        Check.same("no day", h.feastOn(-1, 0), OUTSIDE);
        Check.same("no day at the other end", h.feastOn(1500001, 0), OUTSIDE);
        h.feast(0, 3, 1, 0, 2);
        Check.same("on day 0", h.feastOn(0, 0), 0);
        Check.same("k below 0", h.feastOn(0, -1), NONE);
        Check.same("k least", h.feastOn(0, Integer.MIN_VALUE), NONE);
        Check.same("k too great", h.feastOn(0, Integer.MAX_VALUE), NONE);
        Check.same("on another day", h.feastOn(1, 0), NONE);
    }

    private static void lastDay() {
        AlmanacHouse h = new AlmanacHouse();
        h.feast(0, 1, 10, 0, 3);
        h.feast(0, 1, 10, 0, 2);
        h.feast(0, 1, 10, 0, 0);
        Check.same("on the last day", h.feastDay(0, 4107), 1500000);
        Check.same("moved beyond it: none", h.feastDay(1, 4107), NONE);
        Check.same("nor how far", h.moved(1, 4107), NONE);
        Check.same("rank 0 is not moved", h.feastDay(2, 4107), 1500000);
        Check.same("a year ahead it is", h.moved(1, 4106), 1);
    }
}
