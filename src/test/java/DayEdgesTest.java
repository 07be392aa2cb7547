import java.util.function.ToIntFunction;

/** "DAYS have numbers 0 .. 1500000": every call that takes a day takes these two, and none beside them. */
public final class DayEdgesTest {
    private static final int NONE = AlmanacHouse.NONE, OUTSIDE = AlmanacHouse.OUTSIDE, LAST = Scenes.LAST;
    private static final int[] NO_DAYS = {-1, LAST + 1, Integer.MIN_VALUE, Integer.MAX_VALUE};
    private static final Scene FURNISHED = Scenes.furnished();

    private interface DayCall {
        int of(AlmanacHouse h, int n);
    }

    public static void main(String[] args) {
        calendars();
        twoDays();
        feastsAndMoons();
        parishes();
        weekdays();
        Check.done();
    }

    /** A call takes the first and the last day, and answers OUTSIDE for each number that is no day. */
    private static void takesDays(String what, DayCall call, int ofFirst, int ofLast) {
        Check.same(what + " of day 0", call.of(FURNISHED.house(), 0), ofFirst);
        Check.same(what + " of the last day", call.of(FURNISHED.house(), LAST), ofLast);
        for (int n : NO_DAYS) {
            ToIntFunction<AlmanacHouse> refused = h -> call.of(h, n);
            FURNISHED.refuses(what + " of " + n, refused, OUTSIDE);
        }
    }

    private static void calendars() {
        int[][] first = {{0, 3, 1}, {0, 3, 3}, {1, 1, 1}, {1, 1, 1}, {1, 1, 1}, {0, 10, 1}, {0, 1, 1}};
        int[][] last = {{4107, 1, 10}, {4106, 12, 12}, {4107, 10, 15}, {4233, 11, 26}, {4107, 11, 23}, {4107, 2, 6},
            {4166, 13, 1}};
        for (int c = 0; c <= 6; c++) {
            int calendar = c;
            for (int part = 0; part < 3; part++) {
                int what = part;
                takesDays("fromDay(" + c + ", n, " + part + ")", (h, n) -> h.fromDay(calendar, n, what),
                        first[c][part], last[c][part]);
            }
            takesDays("addMonths(" + c + ", n, 0)", (h, n) -> h.addMonths(calendar, n, 0), 0, LAST);
            takesDays("addYears(" + c + ", n, 0)", (h, n) -> h.addYears(calendar, n, 0), 0, LAST);
            takesDays("birthday(" + c + ", n, own year)",
                    (h, n) -> h.birthday(calendar, n, n > 5 ? 4107 : 0), 0, LAST);
            AlmanacHouse h = new AlmanacHouse();
            Check.same("toDay: day 0 of " + c, h.toDay(c, first[c][0], first[c][1], first[c][2]), 0);
            Check.same("toDay: the last of " + c, h.toDay(c, last[c][0], last[c][1], last[c][2]), LAST);
            Check.same("toDay: behind it", h.toDay(c, last[c][0], last[c][1], last[c][2] + 1), OUTSIDE);
        }
        takesDays("fromDay(7, n, 0)", (h, n) -> h.fromDay(7, n, 0), NONE, NONE);
        takesDays("addMonths(7, n, 0)", (h, n) -> h.addMonths(7, n, 0), NONE, NONE);
        takesDays("addYears(7, n, 0)", (h, n) -> h.addYears(7, n, 0), NONE, NONE);
    }

    private static void twoDays() {
        takesDays("difference(0, n, last, 2)", (h, n) -> n < 0 ? h.difference(0, n, 5, 2) : n > LAST
                ? h.difference(0, n, n, 2) : h.difference(0, n, LAST, 2), 9, 0);
        takesDays("difference(0, 0, n, 0)", (h, n) -> n < 0 ? h.difference(0, n, n, 0)
                : h.difference(0, 0, n, 0), 0, 4106);
    }

    private static void feastsAndMoons() {
        takesDays("feastOn(n, 0)", (h, n) -> h.feastOn(n, 0), NONE, NONE);
        takesDays("age(n)", AlmanacHouse::age, 759829, 590594);
        takesDays("light(n)", AlmanacHouse::light, 1, 486);
        Check.sameDouble("estimate(0)", new AlmanacHouse().estimate(0), 29.748126491503992);
        Check.sameDouble("estimate(last)", new AlmanacHouse().estimate(LAST), 22.283599438966384);
        for (int n : NO_DAYS) {
            Check.sameDouble("estimate(" + n + ")", new AlmanacHouse().estimate(n), -1.0);
            FURNISHED.refuses("estimate(" + n + ")", h -> h.estimate(n) == -1.0 ? OUTSIDE : 0, OUTSIDE);
        }
    }

    /** Day 0 is a Monday, the last one a Saturday; parish 0 is off on Saturdays, parish 1 on Mondays. */
    private static void parishes() {
        takesDays("isOff(0, n)", (h, n) -> h.isOff(0, n), 0, 1);
        takesDays("isOff(1, n)", (h, n) -> h.isOff(1, n), 1, 0);
        takesDays("nextOff(0, n)", (h, n) -> h.nextOff(0, n), 5, NONE);
        takesDays("inRow(0, n)", (h, n) -> h.inRow(0, n), 0, 1);
        takesDays("inRow(1, n)", (h, n) -> h.inRow(1, n), 1, 0);
        takesDays("worked(1, n, n)", (h, n) -> h.worked(1, n, n), 0, 1);
        Check.same("worked from day 0 on", FURNISHED.house().worked(1, 0, 6), 6);
        Check.same("worked up to the last day", FURNISHED.house().worked(1, LAST - 5, LAST), 5);
        FURNISHED.refuses("worked from -1 on", h -> h.worked(1, -1, 6), OUTSIDE);
        FURNISHED.refuses("worked beyond the last day", h -> h.worked(1, LAST - 5, LAST + 1), OUTSIDE);
    }

    /** "WEEKDAYS 0 (Monday) .. 6: the number modulo 7". */
    private static void weekdays() {
        AlmanacHouse h = new AlmanacHouse();
        for (int calendar = 0; calendar <= 5; calendar++) {
            for (int n = 0; n < 15; n++) {
                Check.same("weekday of day " + n + " by " + calendar, h.fromDay(calendar, n, 3), n % 7);
            }
            Check.same("weekday of the last day by " + calendar, h.fromDay(calendar, LAST, 3), 5);
        }
    }
}
