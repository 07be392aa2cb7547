import java.time.LocalDate;
import java.time.temporal.ChronoUnit;

/** Promises 2 to 8: every day and every year of the calendars 0 to 6 against the walked months. */
public final class EveryDayTest {
    public static void main(String[] args) {
        for (int calendar = 0; calendar <= 6; calendar++) {
            days(calendar);
            years(calendar);
        }
        againstTheLibrary();
        Check.done();
    }

    private static void days(int calendar) {
        PlainCalendars walked = PlainCalendars.of(calendar);
        AlmanacHouse house = new AlmanacHouse();
        for (int n = 0; n <= 1500000; n++) {
            if (n % 128 == 0) {
                house = new AlmanacHouse();
            }
            PlainCalendars.Month m = walked.months.get(walked.placeOfDay(n));
            int day = n - m.first() + 1;
            String what = "calendar " + calendar + ", day " + n;
            Check.same(what + ": year", house.fromDay(calendar, n, 0), m.year());
            Check.same(what + ": month", house.fromDay(calendar, n, 1), m.number());
            Check.same(what + ": day", house.fromDay(calendar, n, 2), day);
            Check.same(what + ": and back", house.toDay(calendar, m.year(), m.number(), day), n);
        }
    }

    private static void years(int calendar) {
        PlainCalendars walked = PlainCalendars.of(calendar);
        for (int year = -1; year <= 5001; year++) {
            AlmanacHouse house = new AlmanacHouse();
            String what = "calendar " + calendar + ", year " + year;
            if (!walked.hasYear(year)) {
                Check.same(what + ": months", house.months(calendar, year), AlmanacHouse.NONE);
                Check.same(what + ": length", house.yearLength(calendar, year), AlmanacHouse.NONE);
                Check.same(what + ": month 1", house.monthLength(calendar, year, 1), AlmanacHouse.NONE);
                continue;
            }
            int many = walked.monthsOfYear(year);
            int days = 0;
            for (int m = 1; m <= many; m++) {
                int length = walked.months.get(walked.placeOfYear(year) + m - 1).length();
                Check.same(what + ", month " + m, house.monthLength(calendar, year, m), length);
                days += length;
            }
            Check.same(what + ": months", house.months(calendar, year), many);
            Check.same(what + ": length", house.yearLength(calendar, year), days);
            Check.same(what + ": month 0", house.monthLength(calendar, year, 0), AlmanacHouse.NONE);
            Check.same(what + ": a month more", house.monthLength(calendar, year, many + 1), AlmanacHouse.NONE);
        }
    }

    /** Calendar 0 is the one that the Java library has. */
    private static void againstTheLibrary() {
        LocalDate first = LocalDate.of(0, 3, 1);
        LocalDate last = first.plusDays(1500000);
        AlmanacHouse house = new AlmanacHouse();
        for (int i = 0; i < 100000; i++) {
            if (i % 128 == 0) {
                house = new AlmanacHouse();
            }
            int n = (int) (i * 7919L % 1500001);
            int months = (int) (i * 104729L % 120001) - 60000;
            int years = (int) (i * 1299709L % 10001) - 5000;
            LocalDate date = first.plusDays(n);
            Check.same("year of " + date, house.fromDay(0, n, 0), date.getYear());
            Check.same(date + " and " + months + " months", house.addMonths(0, n, months),
                    number(first, last, date.plusMonths(months)));
            Check.same(date + " and " + years + " years", house.addYears(0, n, years),
                    number(first, last, date.plusYears(years)));
        }
    }

    private static long number(LocalDate first, LocalDate last, LocalDate date) {
        boolean inside = !date.isBefore(first) && !date.isAfter(last);
        return inside ? ChronoUnit.DAYS.between(first, date) : AlmanacHouse.OUTSIDE;
    }
}
