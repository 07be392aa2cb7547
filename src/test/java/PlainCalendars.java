import java.util.ArrayList;
import java.util.List;

/**
 * The calendars 0 to 6 written out month by month, by walking on from each calendar's first year.
 * It shares no arithmetic with the class under test: it counts where that one calculates.
 */
final class PlainCalendars {
    static final int LAST_DAY = 1500000;

    record Month(int year, int number, int first, int length) {
    }

    private static final PlainCalendars[] ALL = new PlainCalendars[7];

    final int firstYear;
    final List<Month> months = new ArrayList<>();
    /** By day 0 .. LAST_DAY, the place of its month. */
    private final int[] byDay = new int[LAST_DAY + 1];
    /** By year, the place of its first month. */
    private final int[] byYear = new int[5002];

    private PlainCalendars(int calendar) {
        firstYear = calendar >= 2 && calendar <= 4 ? 1 : 0;
        switch (calendar) {
            case 0, 1 -> walkSolar(calendar);
            case 2 -> walkThirteen();
            case 3 -> walkTabled();
            case 4 -> walkCounted();
            case 5 -> walkWeeks();
            default -> walkRound();
        }
        index();
    }

    static PlainCalendars of(int calendar) {
        if (ALL[calendar] == null) {
            ALL[calendar] = new PlainCalendars(calendar);
        }
        return ALL[calendar];
    }

    int placeOfDay(int n) {
        return byDay[n];
    }

    boolean hasYear(int year) {
        return year >= firstYear && year <= 5000;
    }

    int placeOfYear(int year) {
        return byYear[year];
    }

    int monthsOfYear(int year) {
        return byYear[year + 1] - byYear[year];
    }

    int yearOf(int n) {
        return months.get(byDay[n]).year();
    }

    private void index() {
        int year = firstYear - 1;
        for (int i = 0; i < months.size(); i++) {
            Month m = months.get(i);
            if (m.year() != year) {
                if (m.year() != year + 1 || m.number() != 1) {
                    throw new IllegalStateException("years do not follow one another");
                }
                year = m.year();
                byYear[year] = i;
            }
            for (int n = Math.max(0, m.first()); n < m.first() + m.length() && n <= LAST_DAY; n++) {
                byDay[n] = i;
            }
        }
        byYear[5001] = months.size();
    }

    private void walkSolar(int calendar) {
        int n = calendar == 0 ? -60 : -62;
        for (int y = 0; y <= 5000; y++) {
            boolean leap = y % 4 == 0;
            if (calendar == 0 && y % 100 == 0) {
                leap = y % 400 == 0;
            }
            int[] lengths = {31, leap ? 29 : 28, 31, 30, 31, 30, 31, 31, 30, 31, 30, 31};
            n = put(y, n, lengths);
        }
    }

    private int put(int year, int first, int[] lengths) {
        int n = first;
        for (int m = 0; m < lengths.length; m++) {
            months.add(new Month(year, m + 1, n, lengths[m]));
            n += lengths[m];
        }
        return n;
    }

    private void walkThirteen() {
        int n = 0;
        for (int y = 1; y <= 5000; y++) {
            int last = y % 4 == 3 ? 6 : 5;
            n = put(y, n, new int[] {30, 30, 30, 30, 30, 30, 30, 30, 30, 30, 30, 30, last});
        }
    }

    private void walkTabled() {
        int n = 0;
        List<Integer> leaps = List.of(2, 5, 7, 10, 13, 16, 18, 21, 24, 26, 29);
        for (int y = 1; y <= 5000; y++) {
            int last = leaps.contains(y % 30) ? 30 : 29;
            n = put(y, n, new int[] {30, 29, 30, 29, 30, 29, 30, 29, 30, 29, 30, last});
        }
    }

    private static long elapsed(long y) {
        long moons = (235 * y - 234) / 19;
        long days = 29 * moons + (12084 + 13753 * moons) / 25920;
        return 3 * (days + 1) % 7 < 3 ? days + 1 : days;
    }

    private static long countedFirst(long y) {
        long k = 0;
        if (elapsed(y + 1) - elapsed(y) == 356) {
            k = 2;
        } else if (y > 1 && elapsed(y) - elapsed(y - 1) == 382) {
            k = 1;
        }
        return elapsed(y) + k;
    }

    private void walkCounted() {
        int n = 0;
        for (int y = 1; y <= 5000; y++) {
            boolean isLong = (7 * y + 1) % 19 < 7;
            int[] lengths = isLong
                    ? new int[] {30, 29, 30, 29, 30, 30, 29, 30, 29, 30, 29, 30, 29}
                    : new int[] {30, 29, 30, 29, 30, 29, 30, 29, 30, 29, 30, 29};
            long days = countedFirst(y + 1) - countedFirst(y);
            if (days == 355 || days == 385) {
                lengths[1] = 30;
            }
            if (days == 353 || days == 383) {
                lengths[2] = 29;
            }
            n = put(y, n, lengths);
            if (n != countedFirst(y + 1)) {
                throw new IllegalStateException("year " + y + " of calendar 4 does not end as told");
            }
        }
    }

    private void walkWeeks() {
        int year = -1;
        int number = 0;
        int yearFirst = -60;
        int calendarYear = 0;
        for (int monday = -70; calendarYear <= 5000; monday += 7) {
            int thursday = monday + 3;
            if (thursday < -60) {
                continue;
            }
            while (thursday >= yearFirst + daysOf(calendarYear)) {
                yearFirst += daysOf(calendarYear);
                calendarYear++;
            }
            if (calendarYear > 5000) {
                return;
            }
            number = calendarYear == year ? number + 1 : 1;
            year = calendarYear;
            months.add(new Month(year, number, monday, 7));
        }
    }

    private static int daysOf(int year) {
        return year % 400 == 0 || year % 4 == 0 && year % 100 != 0 ? 366 : 365;
    }

    private void walkRound() {
        int n = 0;
        for (int y = 0; y <= 5000; y++) {
            int[] lengths = new int[18];
            java.util.Arrays.fill(lengths, 20);
            n = put(y, n, lengths);
        }
    }
}
