import java.math.BigDecimal;
import java.math.RoundingMode;
import java.util.ArrayList;
import java.util.Arrays;
import java.util.HashMap;
import java.util.HashSet;
import java.util.List;
import java.util.Map;
import java.util.Set;

/**
 * A second almanac house, as plain and slow as the document's words: it walks, counts one by one,
 * and takes back by making everything anew. Random runs are held against it.
 */
final class PlainHouse {
    private static final int BAD = -1, NONE = -2, OUTSIDE = -3, FULL = -4, LAST = 1500000;

    private record Row(int first, int length) {
    }

    private record Named(int calendar, int month, long word) {
    }

    private record Feast(int rule, int a, int b, int c, int rank) {
    }

    private record Parish(int weekly, boolean bridges) {
    }

    private record Rule(int parish, int feast, int ahead, int behind) {
    }

    private record Date(int year, int month, int day) {
    }

    private final List<Object> laid = new ArrayList<>();
    private int canBeTaken = 0;
    private final List<Row> rows = new ArrayList<>();
    private final List<Named> words = new ArrayList<>();
    private final List<Feast> feasts = new ArrayList<>();
    private final List<Parish> parishes = new ArrayList<>();
    private final List<Rule> rules = new ArrayList<>();
    private final List<Integer> tape = new ArrayList<>();
    private char[][] page = blankPage();
    private final Map<Integer, int[][]> placedByYear = new HashMap<>();

    private static char[][] blankPage() {
        char[][] blank = new char[28][40];
        for (char[] line : blank) {
            Arrays.fill(line, ' ');
        }
        return blank;
    }

    private static boolean isDay(long n) {
        return n >= 0 && n <= LAST;
    }

    private static boolean isCalendar(int c) {
        return c >= 0 && c <= 7;
    }

    // calendars

    private boolean hasYear(int c, int year) {
        return c == 7 ? year >= 1 && year <= (rows.size() + 9) / 10 : PlainCalendars.of(c).hasYear(year);
    }

    private int monthsOf(int c, int year) {
        return c == 7 ? Math.min(10, rows.size() - 10 * (year - 1)) : PlainCalendars.of(c).monthsOfYear(year);
    }

    private boolean hasMonth(int c, int year, int month) {
        return hasYear(c, year) && month >= 1 && month <= monthsOf(c, year);
    }

    private int place(int c, int year, int month) {
        return c == 7 ? 10 * (year - 1) + month - 1 : PlainCalendars.of(c).placeOfYear(year) + month - 1;
    }

    private int places(int c) {
        return c == 7 ? rows.size() : PlainCalendars.of(c).months.size();
    }

    private int firstAt(int c, int place) {
        return c == 7 ? rows.get(place).first() : PlainCalendars.of(c).months.get(place).first();
    }

    private int lengthAt(int c, int place) {
        return c == 7 ? rows.get(place).length() : PlainCalendars.of(c).months.get(place).length();
    }

    private int placeOfDay(int c, int n) {
        if (c != 7) {
            return PlainCalendars.of(c).placeOfDay(n);
        }
        for (int i = 0; i < rows.size(); i++) {
            if (n >= rows.get(i).first() && n < rows.get(i).first() + rows.get(i).length()) {
                return i;
            }
        }
        return -1;
    }

    private Date dateOf(int c, int n) {
        int p = placeOfDay(c, n);
        if (p < 0) {
            return null;
        }
        int day = n - firstAt(c, p) + 1;
        if (c == 7) {
            return new Date(p / 10 + 1, p % 10 + 1, day);
        }
        PlainCalendars.Month m = PlainCalendars.of(c).months.get(p);
        return new Date(m.year(), m.number(), day);
    }

    int toDay(int c, int year, int month, int day) {
        if (!isCalendar(c)) {
            return BAD;
        }
        if (!hasMonth(c, year, month) || day < 1 || day > lengthAt(c, place(c, year, month))) {
            return NONE;
        }
        int n = firstAt(c, place(c, year, month)) + day - 1;
        return isDay(n) ? n : OUTSIDE;
    }

    int fromDay(int c, int n, int what) {
        if (!isCalendar(c) || what < 0 || what > 4) {
            return BAD;
        }
        if (!isDay(n)) {
            return OUTSIDE;
        }
        Date d = dateOf(c, n);
        if (d == null) {
            return NONE;
        }
        int weekday = c == 6 ? (n + 7) % 20 : c == 7 ? (n - rows.get(0).first()) % 10 : n % 7;
        return new int[] {d.year(), d.month(), d.day(), weekday, c == 6 ? (n + 3) % 13 + 1 : 0}[what];
    }

    int monthLength(int c, int year, int month) {
        if (!isCalendar(c)) {
            return BAD;
        }
        return hasMonth(c, year, month) ? lengthAt(c, place(c, year, month)) : NONE;
    }

    int yearLength(int c, int year) {
        if (!isCalendar(c)) {
            return BAD;
        }
        if (!hasYear(c, year)) {
            return NONE;
        }
        int days = 0;
        for (int m = 1; m <= monthsOf(c, year); m++) {
            days += lengthAt(c, place(c, year, m));
        }
        return days;
    }

    int months(int c, int year) {
        if (!isCalendar(c)) {
            return BAD;
        }
        return hasYear(c, year) ? monthsOf(c, year) : NONE;
    }

    private int nearest(int c, int place, int day) {
        int n = firstAt(c, place) + Math.min(day, lengthAt(c, place)) - 1;
        return isDay(n) ? n : OUTSIDE;
    }

    private int plusYears(int c, int n, int k) {
        Date d = dateOf(c, n);
        if (!hasYear(c, d.year() + k)) {
            return OUTSIDE;
        }
        int month = Math.min(d.month(), monthsOf(c, d.year() + k));
        return nearest(c, place(c, d.year() + k, month), d.day());
    }

    private int plusMonths(int c, int n, int k) {
        int p = placeOfDay(c, n) + k;
        return p < 0 || p >= places(c) ? OUTSIDE : nearest(c, p, dateOf(c, n).day());
    }

    int addMonths(int c, int n, int k) {
        if (!isCalendar(c) || Math.abs((long) k) > 60000) {
            return BAD;
        }
        if (!isDay(n)) {
            return OUTSIDE;
        }
        return dateOf(c, n) == null ? NONE : plusMonths(c, n, k);
    }

    int addYears(int c, int n, int k) {
        if (!isCalendar(c) || Math.abs((long) k) > 5000) {
            return BAD;
        }
        if (!isDay(n)) {
            return OUTSIDE;
        }
        return dateOf(c, n) == null ? NONE : plusYears(c, n, k);
    }

    int difference(int c, int a, int b, int what) {
        if (!isCalendar(c) || what < 0 || what > 2 || b < a) {
            return BAD;
        }
        if (!isDay(a) || !isDay(b)) {
            return OUTSIDE;
        }
        if (dateOf(c, a) == null) {
            return NONE;
        }
        int years = 0;
        int next = plusYears(c, a, 1);
        while (next != OUTSIDE && next <= b) {
            years++;
            next = plusYears(c, a, years + 1);
        }
        int from = plusYears(c, a, years);
        int months = 0;
        next = plusMonths(c, from, 1);
        while (next != OUTSIDE && next <= b) {
            months++;
            next = plusMonths(c, from, months + 1);
        }
        return new int[] {years, months, b - plusMonths(c, from, months)}[what];
    }

    int birthday(int c, int n, int year) {
        if (c < 0 || c > 6) {
            return BAD;
        }
        if (year < 0 || year > 5000) {
            return NONE;
        }
        if (!isDay(n)) {
            return OUTSIDE;
        }
        for (int k = -5000; k <= 5000; k++) {
            int m = plusYears(c, n, k);
            if (isDay(m) && PlainCalendars.of(0).yearOf(m) == year) {
                return m;
            }
        }
        return NONE;
    }

    // what is laid down

    private void lay(Object what) {
        laid.add(what);
        canBeTaken = Math.min(100, canBeTaken + 1);
        renew();
    }

    private void renew() {
        rows.clear();
        words.clear();
        feasts.clear();
        parishes.clear();
        rules.clear();
        placedByYear.clear();
        for (Object o : laid) {
            if (o instanceof Row r) {
                rows.add(r);
            } else if (o instanceof Named w) {
                words.add(w);
            } else if (o instanceof Feast f) {
                feasts.add(f);
            } else if (o instanceof Parish p) {
                parishes.add(p);
            } else if (o instanceof Rule r) {
                rules.add(r);
            }
        }
    }

    int undo() {
        if (canBeTaken == 0) {
            return NONE;
        }
        laid.remove(laid.size() - 1);
        canBeTaken--;
        renew();
        return canBeTaken;
    }

    int count(int what) {
        int[] all = {rows.size(), words.size(), feasts.size(), parishes.size(), rules.size(), canBeTaken,
            tape.size()};
        return what < 0 || what > 6 ? BAD : all[what];
    }

    int row(int first, int length) {
        if (length < 1 || length > 200) {
            return BAD;
        }
        if (!rows.isEmpty()) {
            Row last = rows.get(rows.size() - 1);
            if (first != last.first() + last.length()) {
                return BAD;
            }
        }
        if (!isDay(first) || !isDay((long) first + length - 1)) {
            return OUTSIDE;
        }
        if (rows.size() == 500) {
            return FULL;
        }
        lay(new Row(first, length));
        return rows.size();
    }

    int name(int c, int month, long word) {
        if (!isCalendar(c) || month < 1 || month > 53 || word == 0 || monthNamed(c, word) != NONE) {
            return BAD;
        }
        long has = words.stream().filter(w -> w.calendar() == c && w.month() == month).count();
        if (has == 3 || words.size() == 300) {
            return FULL;
        }
        lay(new Named(c, month, word));
        return (int) has + 1;
    }

    int monthNamed(int c, long word) {
        if (!isCalendar(c)) {
            return BAD;
        }
        return words.stream().filter(w -> w.calendar() == c && w.word() == word)
                .mapToInt(Named::month).findFirst().orElse(NONE);
    }

    int spellings(long word) {
        Set<Integer> calendars = new HashSet<>();
        for (Named w : words) {
            if (w.word() == word) {
                calendars.add(w.calendar());
            }
        }
        return calendars.size();
    }

    // feasts

    int feast(int rule, int a, int b, int c, int rank) {
        boolean good = switch (rule) {
            case 0 -> in(a, 1, 53) && in(b, 1, 200) && in(c, 0, 6);
            case 1 -> in(a, 1, 12) && in(b, 0, 6) && (c == -1 || in(c, 1, 5));
            case 2 -> in(a, -60, 100) && in(b, 0, 1);
            case 3 -> in(a, 0, feasts.size() - 1) && in(b, -40, 40);
            default -> false;
        };
        if (!good || !in(rank, 0, 9)) {
            return BAD;
        }
        if (feasts.size() == 60) {
            return FULL;
        }
        lay(new Feast(rule, a, b, c, rank));
        return feasts.size() - 1;
    }

    private static boolean in(int x, int low, int high) {
        return x >= low && x <= high;
    }

    /** Easter by the table-free way of Butcher (style 0) and Meeus (style 1). */
    private static long easter(int style, int y) {
        if (style == 1) {
            int d = (19 * (y % 19) + 15) % 30;
            int e = (2 * (y % 4) + 4 * (y % 7) - d + 34) % 7;
            int sum = d + e + 114;
            return new PlainDay(1, y, sum / 31, sum % 31 + 1).number();
        }
        int a = y % 19;
        int b = y / 100;
        int c = y % 100;
        int h = Math.floorMod(19 * a + b - b / 4 - (b - (b + 8) / 25 + 1) / 3 + 15, 30);
        int l = Math.floorMod(32 + 2 * (b % 4) + 2 * (c / 4) - h - c % 4, 7);
        int m = (a + 11 * h + 22 * l) / 451;
        int sum = h + l - 7 * m + 114;
        return new PlainDay(0, y, sum / 31, sum % 31 + 1).number();
    }

    /** A date's number without a look at the range. */
    private record PlainDay(int calendar, int year, int month, int day) {
        long number() {
            PlainCalendars all = PlainCalendars.of(calendar);
            return all.months.get(all.placeOfYear(year) + month - 1).first() + day - 1;
        }
    }

    int movable(int style, int year) {
        if (style != 0 && style != 1) {
            return BAD;
        }
        if (year < 0 || year > 5000) {
            return NONE;
        }
        long n = easter(style, year);
        return isDay(n) ? (int) n : OUTSIDE;
    }

    /** The day by a feast's rule, NONE if it has none. */
    private int byRule(int feast, int year) {
        Feast f = feasts.get(feast);
        long n = NONE;
        if (f.rule() == 0) {
            n = firstFixed(f, year);
        } else if (f.rule() == 1) {
            n = weekdayOf(f, year);
        } else if (f.rule() == 2) {
            n = easter(f.b(), year) + f.a();
        } else {
            int leader = byRule(f.a(), year);
            n = leader == NONE ? NONE : leader + f.b();
        }
        return isDay(n) ? (int) n : NONE;
    }

    private int firstFixed(Feast f, int year) {
        long first = new PlainDay(0, year, 1, 1).number();
        for (long n = Math.max(0, first); n <= Math.min(LAST, first + 366); n++) {
            if (PlainCalendars.of(0).yearOf((int) n) == year) {
                Date d = dateOf(f.c(), (int) n);
                if (d.month() == f.a() && d.day() == f.b()) {
                    return (int) n;
                }
            }
        }
        return NONE;
    }

    private long weekdayOf(Feast f, int year) {
        PlainCalendars all = PlainCalendars.of(0);
        PlainCalendars.Month m = all.months.get(all.placeOfYear(year) + f.a() - 1);
        List<Integer> found = new ArrayList<>();
        for (int n = m.first(); n < m.first() + m.length(); n++) {
            if (Math.floorMod(n, 7) == f.b()) {
                found.add(n);
            }
        }
        int at = f.c() == -1 ? found.size() - 1 : f.c() - 1;
        return at < found.size() ? found.get(at) : NONE;
    }

    /** Row 0: the days by rule; row 1: where the feasts are placed. */
    private int[][] placed(int year) {
        int[][] known = placedByYear.get(year);
        if (known != null) {
            return known;
        }
        int[][] days = new int[2][feasts.size()];
        Set<Integer> taken = new HashSet<>();
        for (int i = 0; i < feasts.size(); i++) {
            days[0][i] = byRule(i, year);
        }
        for (int rank = 9; rank >= 0; rank--) {
            for (int i = 0; i < feasts.size(); i++) {
                if (feasts.get(i).rank() == rank) {
                    int n = days[0][i];
                    while (n != NONE && rank > 0 && taken.contains(n)) {
                        n++;
                    }
                    days[1][i] = isDay(n) ? n : NONE;
                    if (rank > 0 && isDay(n)) {
                        taken.add(n);
                    }
                }
            }
        }
        placedByYear.put(year, days);
        return days;
    }

    int feastDay(int feast, int year) {
        if (!in(feast, 0, feasts.size() - 1)) {
            return BAD;
        }
        return year < 0 || year > 5000 ? NONE : placed(year)[1][feast];
    }

    int moved(int feast, int year) {
        int n = feastDay(feast, year);
        return n < 0 ? n : n - placed(year)[0][feast];
    }

    private List<Integer> feastsOn(int n) {
        int[] at = placed(PlainCalendars.of(0).yearOf(n))[1];
        List<Integer> found = new ArrayList<>();
        for (int i = 0; i < at.length; i++) {
            if (at[i] == n) {
                found.add(i);
            }
        }
        found.sort((x, y) -> feasts.get(x).rank() != feasts.get(y).rank()
                ? feasts.get(y).rank() - feasts.get(x).rank() : x - y);
        return found;
    }

    int feastOn(int n, int k) {
        if (!isDay(n)) {
            return OUTSIDE;
        }
        List<Integer> found = feastsOn(n);
        return k < 0 || k >= found.size() ? NONE : found.get(k);
    }

    // moons

    int age(int n) {
        if (!isDay(n)) {
            return OUTSIDE;
        }
        long parts = n * 25920L;
        long moon = 5604 - 765433L;
        long steps = (parts - moon) / 765433L;
        return (int) (parts - moon - steps * 765433L);
    }

    int newMoon(int k) {
        if (k < 0) {
            return BAD;
        }
        long n = (5604 + 765433L * k) / 25920;
        return n > LAST ? OUTSIDE : (int) n;
    }

    private static double wave(double u) {
        double t = u - Math.floor(u);
        double r = 2.0 * t - 1.0;
        double q = r * r;
        double inner = 2.015625 - q * 0.453125;
        double outer = 3.140625 - q * inner;
        double left = r * (q - 1.0);
        return left * outer;
    }

    double estimate(int n) {
        if (!isDay(n)) {
            return -1.0;
        }
        double[][] terms = {{0.41, 0.0362916, 0.3}, {0.174, 0.0027379, 0.05}, {0.018, 0.0677, 0.7},
            {0.0115, 0.0734, 0.11}, {-0.0041, 0.0314, 0.5}};
        double sum = age(n) / 25920.0;
        for (double[] t : terms) {
            sum += t[0] * wave(n * t[1] + t[2]);
        }
        return sum;
    }

    int light(int n) {
        if (!isDay(n)) {
            return OUTSIDE;
        }
        double exact = 500.0 - 500.0 * wave(estimate(n) / 29.530594 + 0.25);
        int whole = new BigDecimal(exact).setScale(0, RoundingMode.HALF_EVEN).intValueExact();
        return Math.max(0, Math.min(1000, whole));
    }

    // parishes

    int parish(int weekly, boolean bridges) {
        if (!in(weekly, 0, 127)) {
            return BAD;
        }
        if (parishes.size() == 8) {
            return FULL;
        }
        lay(new Parish(weekly, bridges));
        return parishes.size() - 1;
    }

    int rule(int parish, int feast, int ahead, int behind) {
        if (!in(parish, 0, parishes.size() - 1) || !in(feast, 0, feasts.size() - 1)
                || !in(ahead, 0, 10) || !in(behind, 0, 10)) {
            return BAD;
        }
        if (rules.size() == 48) {
            return FULL;
        }
        lay(new Rule(parish, feast, ahead, behind));
        return (int) rules.stream().filter(r -> r.parish() == parish).count();
    }

    private boolean free(int parish, int n) {
        if (!isDay(n)) {
            return false;
        }
        if ((parishes.get(parish).weekly() & 1 << n % 7) != 0) {
            return true;
        }
        int own = PlainCalendars.of(0).yearOf(n);
        for (int year = Math.max(0, own - 1); year <= Math.min(5000, own + 1); year++) {
            for (Rule r : rules) {
                int at = r.parish() == parish ? placed(year)[1][r.feast()] : NONE;
                if (at != NONE && n >= at - r.ahead() && n <= at + r.behind()) {
                    return true;
                }
            }
        }
        return false;
    }

    private boolean off(int parish, int n) {
        return free(parish, n)
                || parishes.get(parish).bridges() && free(parish, n - 1) && free(parish, n + 1);
    }

    private int refusal(int parish, int n) {
        return !in(parish, 0, parishes.size() - 1) ? BAD : isDay(n) ? 0 : OUTSIDE;
    }

    int isOff(int parish, int n) {
        int refused = refusal(parish, n);
        return refused != 0 ? refused : off(parish, n) ? 1 : 0;
    }

    int worked(int parish, int from, int to) {
        if (!in(parish, 0, parishes.size() - 1) || to < from || (long) to - from + 1 > 800) {
            return BAD;
        }
        if (!isDay(from) || !isDay(to)) {
            return OUTSIDE;
        }
        int days = 0;
        for (int n = from; n <= to; n++) {
            days += off(parish, n) ? 0 : 1;
        }
        return days;
    }

    int nextOff(int parish, int n) {
        int refused = refusal(parish, n);
        if (refused != 0) {
            return refused;
        }
        for (int i = 1; i <= 400; i++) {
            if (isDay(n + i) && off(parish, n + i)) {
                return n + i;
            }
        }
        return NONE;
    }

    int inRow(int parish, int n) {
        int refused = refusal(parish, n);
        if (refused != 0 || !off(parish, n)) {
            return refused;
        }
        int ahead = 0;
        while (ahead < 50 && isDay(n - ahead - 1) && off(parish, n - ahead - 1)) {
            ahead++;
        }
        int behind = 0;
        while (behind < 50 && isDay(n + behind + 1) && off(parish, n + behind + 1)) {
            behind++;
        }
        return ahead + 1 + behind;
    }

    // pages and books

    int page(int parish, int c, int year, int month) {
        if (!in(parish, 0, parishes.size() - 1) || !isCalendar(c)) {
            return BAD;
        }
        if (!hasMonth(c, year, month)) {
            return NONE;
        }
        int first = firstAt(c, place(c, year, month));
        int length = lengthAt(c, place(c, year, month));
        if (!isDay(first) || !isDay(first + length - 1)) {
            return OUTSIDE;
        }
        List<StringBuilder> lines = new ArrayList<>();
        lines.add(new StringBuilder(year + " " + month));
        lines.add(new StringBuilder(" M  T  W  T  F  S  S"));
        for (int i = 0; i < length; i++) {
            int n = first + i;
            if (i == 0 || n % 7 == 0) {
                lines.add(new StringBuilder(" ".repeat(40)));
            }
            StringBuilder line = lines.get(lines.size() - 1);
            write(line, 3 * (n % 7), twoDigits(i + 1));
            if (!feastsOn(n).isEmpty()) {
                write(line, 3 * (n % 7) + 2, "*");
            } else if (off(parish, n)) {
                write(line, 3 * (n % 7) + 2, ".");
            }
            if (isNewMoon(n)) {
                write(line, 23 + n % 7, "o");
            }
        }
        for (int i = 0; i < length; i++) {
            for (int f : feastsOn(first + i)) {
                lines.add(new StringBuilder(" ".repeat(40)));
                write(lines.get(lines.size() - 1), 0, twoDigits(i + 1));
                write(lines.get(lines.size() - 1), 3, String.valueOf(f));
                write(lines.get(lines.size() - 1), 6, String.valueOf(feasts.get(f).rank()));
            }
        }
        page = blankPage();
        int used = Math.min(28, lines.size());
        for (int l = 0; l < used; l++) {
            for (int i = 0; i < lines.get(l).length(); i++) {
                page[l][i] = lines.get(l).charAt(i);
            }
        }
        return used;
    }

    private boolean isNewMoon(int n) {
        int near = (int) (n * 25920L / 765433L);
        return newMoon(near) == n || newMoon(near + 1) == n || near > 0 && newMoon(near - 1) == n;
    }

    private static String twoDigits(int number) {
        String padded = String.format("%03d", number);
        String two = padded.substring(padded.length() - 2);
        return two.charAt(0) == '0' ? " " + two.charAt(1) : two;
    }

    private static void write(StringBuilder line, int at, String text) {
        line.replace(at, at + text.length(), text);
    }

    int sign(int line, int i) {
        return in(line, 0, 27) && in(i, 0, 39) ? page[line][i] : BAD;
    }

    int book(int parish, int year) {
        if (!in(parish, 0, parishes.size() - 1)) {
            return BAD;
        }
        if (year < 0 || year > 5000) {
            return NONE;
        }
        long first = new PlainDay(0, year, 1, 1).number();
        int days = yearLength(0, year);
        if (!isDay(first) || !isDay(first + days - 1)) {
            return OUTSIDE;
        }
        List<Integer> bytes = new ArrayList<>(List.of(year / 256, year % 256, days / 256, days % 256));
        for (int n = (int) first; n < first + days; n++) {
            bytes.add(n % 7 + (off(parish, n) ? 8 : 0) + 16 * Math.min(15, feastsOn(n).size()));
        }
        int sum = sum(bytes);
        for (int shift = 24; shift >= 0; shift -= 8) {
            bytes.add(sum >>> shift & 255);
        }
        if (tape.size() + bytes.size() > 1200) {
            return FULL;
        }
        tape.addAll(bytes);
        return tape.size();
    }

    private static int sum(List<Integer> bytes) {
        int s = 1;
        for (int b : bytes) {
            s = Integer.rotateLeft(s ^ b, 9) * 0x01000193;
        }
        return s;
    }

    int load(int v, int n) {
        if (!in(n, 1, 4)) {
            return BAD;
        }
        if (tape.size() + n > 1200) {
            return FULL;
        }
        for (int i = n - 1; i >= 0; i--) {
            tape.add(v >>> 8 * i & 255);
        }
        return tape.size();
    }

    int byteAt(int i) {
        return in(i, 0, tape.size() - 1) ? tape.get(i) : NONE;
    }

    int spoil(int i, int mask) {
        if (!in(i, 0, tape.size() - 1)) {
            return NONE;
        }
        tape.set(i, tape.get(i) ^ mask & 255);
        return tape.get(i);
    }

    int wipe() {
        int had = tape.size();
        tape.clear();
        return had;
    }

    int verify() {
        return tape.isEmpty() ? NONE : verify(0);
    }

    private int verify(int from) {
        if (from == tape.size()) {
            return 0;
        }
        if (from + 8 > tape.size()) {
            return NONE;
        }
        int end = from + 4 + tape.get(from + 2) * 256 + tape.get(from + 3);
        if (end + 4 > tape.size()) {
            return NONE;
        }
        int sum = sum(tape.subList(from, end));
        for (int i = 0; i < 4; i++) {
            if (tape.get(end + i) != (sum >>> 24 - 8 * i & 255)) {
                return NONE;
            }
        }
        int rest = verify(end + 4);
        return rest == NONE ? NONE : rest + 1;
    }
}
