import java.util.Arrays;

/**
 * An almanac house: one row of days and eight calendars over it, feasts, moons, parishes, pages and
 * books. The document DOC.md tells what each call answers; README.md tells how the class is laid out.
 */
public final class AlmanacHouse {
    public static final int BAD = -1, NONE = -2, OUTSIDE = -3, FULL = -4;

    private static final int LAST_DAY = 1500000;
    private static final int LAST_YEAR = 5000;
    private static final int MOST_MONTHS_ADDED = 60000;
    private static final int MOST_YEARS_ADDED = 5000;
    private static final int MOST_DAYS_WORKED = 800;
    private static final int DAYS_LOOKED_ON = 400;
    private static final int DAYS_LOOKED_AROUND = 50;

    private final Calendars calendars;
    private final Words words;
    private final Feasts feasts;
    private final Parishes parishes;
    private final Page page;
    private final Tape tape;
    private final Log log;

    public AlmanacHouse() {
        calendars = new Calendars();
        words = new Words();
        feasts = new Feasts(calendars);
        parishes = new Parishes(calendars, feasts);
        page = new Page(feasts, parishes);
        tape = new Tape();
        log = new Log();
    }

    // ---- 1 calendars

    public int toDay(int calendar, int year, int month, int day) {
        if (!isCalendar(calendar)) {
            return BAD;
        }
        if (!calendars.open(calendar, year) || !calendars.openYearHas(month, day)) {
            return NONE;
        }
        return dayOrOutside(calendars.firstOf(month) + day - 1);
    }

    public int fromDay(int calendar, int n, int what) {
        if (!isCalendar(calendar) || what < 0 || what > 4) {
            return BAD;
        }
        if (!isDay(n)) {
            return OUTSIDE;
        }
        if (!calendars.locate(calendar, n)) {
            return NONE;
        }
        switch (what) {
            case 0:
                return calendars.foundYear();
            case 1:
                return calendars.foundMonth();
            case 2:
                return calendars.foundDay();
            case 3:
                return calendars.signOfDay(calendar, n);
            default:
                return calendar == Calendars.ROUND ? (n + 3) % 13 + 1 : 0;
        }
    }

    public int monthLength(int calendar, int year, int month) {
        if (!isCalendar(calendar)) {
            return BAD;
        }
        if (!calendars.open(calendar, year) || !calendars.openYearHas(month)) {
            return NONE;
        }
        return calendars.lengthOf(month);
    }

    public int yearLength(int calendar, int year) {
        if (!isCalendar(calendar)) {
            return BAD;
        }
        return calendars.open(calendar, year) ? calendars.daysInOpenYear() : NONE;
    }

    public int months(int calendar, int year) {
        if (!isCalendar(calendar)) {
            return BAD;
        }
        return calendars.open(calendar, year) ? calendars.monthsInOpenYear() : NONE;
    }

    public int addMonths(int calendar, int n, int k) {
        if (!isCalendar(calendar) || k < -MOST_MONTHS_ADDED || k > MOST_MONTHS_ADDED) {
            return BAD;
        }
        return isDay(n) ? calendars.monthsOn(calendar, n, k) : OUTSIDE;
    }

    public int addYears(int calendar, int n, int k) {
        if (!isCalendar(calendar) || k < -MOST_YEARS_ADDED || k > MOST_YEARS_ADDED) {
            return BAD;
        }
        return isDay(n) ? calendars.yearsOn(calendar, n, k) : OUTSIDE;
    }

    public int difference(int calendar, int a, int b, int what) {
        if (!isCalendar(calendar) || what < 0 || what > 2 || b < a) {
            return BAD;
        }
        if (!isDay(a) || !isDay(b)) {
            return OUTSIDE;
        }
        if (!calendars.locate(calendar, a)) {
            return NONE;
        }
        int years = calendars.wholeYears(calendar, a, b);
        if (what == 0) {
            return years;
        }
        int later = calendars.yearsOn(calendar, a, years);
        int wholeMonths = calendars.wholeMonths(calendar, later, b);
        if (what == 1) {
            return wholeMonths;
        }
        return b - calendars.monthsOn(calendar, later, wholeMonths);
    }

    public int birthday(int calendar, int n, int year) {
        if (!isCalendar(calendar) || calendar == Calendars.TOWN) {
            return BAD;
        }
        if (!isYear(year)) {
            return NONE;
        }
        if (!isDay(n)) {
            return OUTSIDE;
        }
        if (!calendars.locate(calendar, n)) {
            return NONE;
        }
        return calendars.firstDayIn(year, calendar, calendars.foundMonth(), calendars.foundDay(), true);
    }

    public int row(int first, int length) {
        if (length < 1 || length > Calendars.LONGEST_ROW || !calendars.rowFits(first)) {
            return BAD;
        }
        if (!isDay(first) || first + length - 1 > LAST_DAY) {
            return OUTSIDE;
        }
        if (calendars.rowCount() >= Calendars.MOST_ROWS) {
            return FULL;
        }
        calendars.layRow(first, length);
        log.note(Log.ROW);
        return calendars.rowCount();
    }

    public int name(int calendar, int month, long word) {
        if (!isCalendar(calendar) || month < 1 || month > Calendars.MOST_MONTHS || word == 0) {
            return BAD;
        }
        if (words.monthOf(calendar, word) != NONE) {
            return BAD;
        }
        if (words.countOf(calendar, month) >= Words.MOST_A_MONTH || words.size() >= Words.MOST) {
            return FULL;
        }
        words.add(calendar, month, word);
        log.note(Log.NAME);
        return words.countOf(calendar, month);
    }

    public int monthNamed(int calendar, long word) {
        return isCalendar(calendar) ? words.monthOf(calendar, word) : BAD;
    }

    public int spellings(long word) {
        return words.calendarsWith(word);
    }

    // ---- 2 feasts

    public int feast(int rule, int a, int b, int c, int rank) {
        if (rank < 0 || rank > Feasts.TOP_RANK || !feasts.isRule(rule, a, b, c)) {
            return BAD;
        }
        if (feasts.size() >= Feasts.MOST) {
            return FULL;
        }
        feasts.add(rule, a, b, c, rank);
        log.note(Log.FEAST);
        return feasts.size() - 1;
    }

    public int feastDay(int feast, int year) {
        if (!feasts.has(feast)) {
            return BAD;
        }
        if (!isYear(year)) {
            return NONE;
        }
        feasts.prepare(year);
        return feasts.placeOf(feast, year);
    }

    public int moved(int feast, int year) {
        int place = feastDay(feast, year);
        return place < 0 ? place : place - feasts.ruleDayOf(feast, year);
    }

    public int movable(int style, int year) {
        if (style != 0 && style != 1) {
            return BAD;
        }
        return isYear(year) ? dayOrOutside(feasts.movableDay(style, year)) : NONE;
    }

    public int feastOn(int n, int k) {
        if (!isDay(n)) {
            return OUTSIDE;
        }
        int year = calendars.yearOf(Calendars.REFORMED, n);
        feasts.prepare(year);
        return feasts.placedOn(n, k, year);
    }

    // ---- 3 moons

    public int age(int n) {
        return isDay(n) ? Moon.partsSince(n) : OUTSIDE;
    }

    public int newMoon(int k) {
        if (k < 0) {
            return BAD;
        }
        long day = Moon.dayOfNumber(k);
        return day > LAST_DAY ? OUTSIDE : (int) day;
    }

    public double estimate(int n) {
        return isDay(n) ? Moon.estimated(n) : -1.0;
    }

    public int light(int n) {
        return isDay(n) ? Moon.lit(n) : OUTSIDE;
    }

    // ---- 4 parishes

    public int parish(int weekly, boolean bridges) {
        if (weekly < 0 || weekly > 127) {
            return BAD;
        }
        if (parishes.size() >= Parishes.MOST) {
            return FULL;
        }
        parishes.add(weekly, bridges);
        log.note(Log.PARISH);
        return parishes.size() - 1;
    }

    public int rule(int parish, int feast, int ahead, int behind) {
        if (!parishes.has(parish) || !feasts.has(feast)
                || !Parishes.isReach(ahead) || !Parishes.isReach(behind)) {
            return BAD;
        }
        if (parishes.ruleCount() >= Parishes.MOST_RULES) {
            return FULL;
        }
        parishes.addRule(parish, feast, ahead, behind);
        log.note(Log.RULE);
        return parishes.rulesOf(parish);
    }

    public int isOff(int parish, int n) {
        if (!parishes.has(parish)) {
            return BAD;
        }
        if (!isDay(n)) {
            return OUTSIDE;
        }
        parishes.survey(parish, n, n);
        return parishes.off(n) ? 1 : 0;
    }

    public int worked(int parish, int from, int to) {
        if (!parishes.has(parish) || to < from || (long) to - from >= MOST_DAYS_WORKED) {
            return BAD;
        }
        if (!isDay(from) || !isDay(to)) {
            return OUTSIDE;
        }
        parishes.survey(parish, from, to);
        int days = 0;
        for (int n = from; n <= to; n++) {
            if (!parishes.off(n)) {
                days++;
            }
        }
        return days;
    }

    public int nextOff(int parish, int n) {
        if (!parishes.has(parish)) {
            return BAD;
        }
        if (!isDay(n)) {
            return OUTSIDE;
        }
        int last = Math.min(LAST_DAY, n + DAYS_LOOKED_ON);
        parishes.survey(parish, n, last);
        for (int next = n + 1; next <= last; next++) {
            if (parishes.off(next)) {
                return next;
            }
        }
        return NONE;
    }

    public int inRow(int parish, int n) {
        if (!parishes.has(parish)) {
            return BAD;
        }
        if (!isDay(n)) {
            return OUTSIDE;
        }
        int first = Math.max(0, n - DAYS_LOOKED_AROUND);
        int last = Math.min(LAST_DAY, n + DAYS_LOOKED_AROUND);
        parishes.survey(parish, first, last);
        if (!parishes.off(n)) {
            return 0;
        }
        int days = 1;
        for (int before = n - 1; before >= first && parishes.off(before); before--) {
            days++;
        }
        for (int after = n + 1; after <= last && parishes.off(after); after++) {
            days++;
        }
        return days;
    }

    // ---- 5 pages, books

    public int page(int parish, int calendar, int year, int month) {
        if (!parishes.has(parish) || !isCalendar(calendar)) {
            return BAD;
        }
        if (!calendars.open(calendar, year) || !calendars.openYearHas(month)) {
            return NONE;
        }
        int first = calendars.firstOf(month);
        int last = first + calendars.lengthOf(month) - 1;
        if (!isDay(first) || !isDay(last)) {
            return OUTSIDE;
        }
        parishes.survey(parish, first, last);
        feasts.tally(first, last);
        return page.write(year, month, first, last);
    }

    public int sign(int line, int i) {
        return page.at(line, i);
    }

    public int book(int parish, int year) {
        if (!parishes.has(parish)) {
            return BAD;
        }
        if (!calendars.open(Calendars.REFORMED, year)) {
            return NONE;
        }
        int first = calendars.firstOf(1);
        int days = calendars.daysInOpenYear();
        if (!isDay(first) || !isDay(first + days - 1)) {
            return OUTSIDE;
        }
        if (!tape.takes(Tape.AROUND_DAYS + days)) {
            return FULL;
        }
        parishes.survey(parish, first, first + days - 1);
        feasts.tally(first, first + days - 1);
        writeBook(year, first, days);
        return tape.size();
    }

    public int load(int v, int n) {
        if (n < 1 || n > 4) {
            return BAD;
        }
        if (!tape.takes(n)) {
            return FULL;
        }
        tape.append(v, n);
        return tape.size();
    }

    public int byteAt(int i) {
        return tape.has(i) ? tape.at(i) : NONE;
    }

    public int spoil(int i, int mask) {
        return tape.has(i) ? tape.turn(i, mask) : NONE;
    }

    public int wipe() {
        int had = tape.size();
        tape.clear();
        return had;
    }

    public int verify() {
        return tape.booksProved();
    }

    // ---- what was laid down

    public int undo() {
        switch (log.takeLatest()) {
            case Log.ROW:
                calendars.dropRow();
                break;
            case Log.NAME:
                words.drop();
                break;
            case Log.FEAST:
                feasts.drop();
                break;
            case Log.PARISH:
                parishes.drop();
                break;
            case Log.RULE:
                parishes.dropRule();
                break;
            default:
                return NONE;
        }
        return log.size();
    }

    public int count(int what) {
        switch (what) {
            case 0:
                return calendars.rowCount();
            case 1:
                return words.size();
            case 2:
                return feasts.size();
            case 3:
                return parishes.size();
            case 4:
                return parishes.ruleCount();
            case 5:
                return log.size();
            case 6:
                return tape.size();
            default:
                return BAD;
        }
    }

    /** Needs the year surveyed for a parish, its feasts tallied, and room on the tape. */
    private void writeBook(int year, int first, int days) {
        int begin = tape.size();
        tape.append(year, 2);
        tape.append(days, 2);
        for (int n = first; n < first + days; n++) {
            int off = parishes.off(n) ? 8 : 0;
            tape.append(n % 7 + off + 16 * Math.min(15, feasts.tallied(n)), 1);
        }
        tape.append(tape.sum(begin, tape.size()), 4);
    }

    private static boolean isCalendar(int calendar) {
        return calendar >= 0 && calendar < Calendars.MOST;
    }

    private static boolean isDay(int n) {
        return n >= 0 && n <= LAST_DAY;
    }

    /** Of the years of calendar 0, by which feasts, parishes and books go. */
    private static boolean isYear(int year) {
        return year >= 0 && year <= LAST_YEAR;
    }

    private static int dayOrOutside(int n) {
        return isDay(n) ? n : OUTSIDE;
    }

    /**
     * The eight calendars. A year is opened, then asked for its months; a day is located, then asked
     * for its date. What was opened or found holds until the next call that opens a year.
     */
    private static final class Calendars {
        static final int REFORMED = 0, OLD = 1, THIRTEEN = 2, TABLED = 3;
        static final int COUNTED = 4, WEEKS = 5, ROUND = 6, TOWN = 7;
        static final int MOST = 8;
        static final int MOST_ROWS = 500, LONGEST_ROW = 200, MOST_MONTHS = 53;
        private static final int ROWS_A_YEAR = 10;
        /** A power of two above half of the years, the first step of every search for a year. */
        private static final int WIDEST_STEP = 4096;
        private static final int[] DAYS_AHEAD = {0, 31, 59, 90, 120, 151, 181, 212, 243, 273, 304, 334};

        /** The first day of each row, and behind those the day that follows the last row. */
        private final int[] rowFirst = new int[MOST_ROWS + 1];
        private int rows;

        private int openCalendar;
        private int openYear;
        private int openFirst;
        private int openNext;
        private int openMonthsAhead;
        private int openMonths;

        private int monthFound;
        private int dayFound;

        int rowCount() {
            return rows;
        }

        boolean rowFits(int first) {
            return rows == 0 || first == rowFirst[rows];
        }

        void layRow(int first, int length) {
            if (rows < MOST_ROWS) {
                rowFirst[rows] = first;
                rows++;
                rowFirst[rows] = first + length;
            }
        }

        void dropRow() {
            if (rows > 0) {
                rows--;
            }
        }

        private static int firstYear(int calendar) {
            switch (calendar) {
                case THIRTEEN:
                case TABLED:
                case COUNTED:
                case TOWN:
                    return 1;
                default:
                    return 0;
            }
        }

        private int lastYear(int calendar) {
            return calendar == TOWN ? (rows + ROWS_A_YEAR - 1) / ROWS_A_YEAR : LAST_YEAR;
        }

        /** Of years that are there, and of the one behind the last, so that each has an end. */
        private int yearStart(int calendar, int year) {
            switch (calendar) {
                case OLD:
                    return 365 * year + (year + 3) / 4 - 62;
                case THIRTEEN:
                    return 365 * (year - 1) + year / 4;
                case TABLED:
                    return 354 * (year - 1) + (11 * year + 3) / 30;
                case COUNTED:
                    return countedStart(year);
                case WEEKS:
                    return weeksStart(year);
                case ROUND:
                    return 360 * year;
                case TOWN:
                    return rowFirst[rowsAhead(year)];
                default:
                    return reformedStart(year);
            }
        }

        static int reformedStart(int year) {
            return 365 * year + (year + 3) / 4 - (year + 99) / 100 + (year + 399) / 400 - 60;
        }

        private static int weeksStart(int year) {
            int start = reformedStart(year);
            int weekday = Math.floorMod(start, 7);
            return weekday <= 3 ? start - weekday : start - weekday + 7;
        }

        private static int countedStart(int year) {
            int before = 0;
            int here = 0;
            int after = 0;
            for (int y = year - 1; y <= year + 1; y++) {
                int moons = (235 * y - 234) / 19;
                int rough = 29 * moons + (12084 + 13753 * moons) / 25920;
                before = here;
                here = after;
                after = 3 * (rough + 1) % 7 < 3 ? rough + 1 : rough;
            }
            if (after - here == 356) {
                return here + 2;
            }
            return year > 1 && here - before == 382 ? here + 1 : here;
        }

        private int rowsAhead(int year) {
            return year < 1 ? 0 : Math.min(ROWS_A_YEAR * (year - 1), rows);
        }

        /** How many months a calendar has had when a year begins. */
        private int monthsAhead(int calendar, int year) {
            switch (calendar) {
                case THIRTEEN:
                    return 13 * (year - 1);
                case TABLED:
                    return 12 * (year - 1);
                case COUNTED:
                    return (235 * year - 234) / 19;
                case WEEKS:
                    return (weeksStart(year) - weeksStart(0)) / 7;
                case ROUND:
                    return 18 * year;
                case TOWN:
                    return rowsAhead(year);
                default:
                    return 12 * year;
            }
        }

        boolean open(int calendar, int year) {
            if (year < firstYear(calendar) || year > lastYear(calendar)) {
                return false;
            }
            openCalendar = calendar;
            openYear = year;
            openFirst = yearStart(calendar, year);
            openNext = yearStart(calendar, year + 1);
            openMonthsAhead = monthsAhead(calendar, year);
            openMonths = monthsAhead(calendar, year + 1) - openMonthsAhead;
            return true;
        }

        int daysInOpenYear() {
            return openNext - openFirst;
        }

        int monthsInOpenYear() {
            return openMonths;
        }

        boolean openYearHas(int month) {
            return month >= 1 && month <= openMonths;
        }

        boolean openYearHas(int month, int day) {
            return openYearHas(month) && day >= 1 && day <= firstOf(month + 1) - firstOf(month);
        }

        /** Behind the last month comes the next year: so each month ends where the next begins. */
        int firstOf(int month) {
            if (month < 1) {
                return openFirst;
            }
            if (month > openMonths) {
                return openNext;
            }
            switch (openCalendar) {
                case THIRTEEN:
                    return openFirst + 30 * (month - 1);
                case TABLED:
                    return openFirst + 29 * (month - 1) + month / 2;
                case COUNTED:
                    return openFirst + countedDaysAhead(month);
                case WEEKS:
                    return openFirst + 7 * (month - 1);
                case ROUND:
                    return openFirst + 20 * (month - 1);
                case TOWN:
                    return rowFirst[Math.min(openMonthsAhead + month - 1, rows)];
                default:
                    int leapDay = month > 2 ? openNext - openFirst - 365 : 0;
                    return openFirst + DAYS_AHEAD[Math.min(month, 12) - 1] + leapDay;
            }
        }

        int lengthOf(int month) {
            return firstOf(month + 1) - firstOf(month);
        }

        /** A long year has one more month of 30 days ahead of its seventh, else 30 and 29 by turns. */
        private int countedDaysAhead(int month) {
            int added = openMonths == 13 && month > 6 ? 1 : 0;
            int turns = month - added;
            int days = 30 * added + 29 * (turns - 1) + turns / 2;
            int length = openNext - openFirst;
            if (month > 2 && (length == 355 || length == 385)) {
                days++;
            }
            if (month > 3 && (length == 353 || length == 383)) {
                days--;
            }
            return days;
        }

        private int nearestDay(int month, int day) {
            int nearMonth = Math.min(month, openMonths);
            return Math.min(firstOf(nearMonth) + day, firstOf(nearMonth + 1)) - 1;
        }

        /** The latest year that has begun by day n: the first one if none has. */
        int yearOf(int calendar, int n) {
            int year = firstYear(calendar);
            int last = lastYear(calendar);
            for (int step = WIDEST_STEP; step > 0; step /= 2) {
                if (year + step <= last && yearStart(calendar, year + step) <= n) {
                    year += step;
                }
            }
            return year;
        }

        private int yearOfMonth(int calendar, int number) {
            int year = firstYear(calendar);
            int last = lastYear(calendar);
            for (int step = WIDEST_STEP; step > 0; step /= 2) {
                if (year + step <= last && monthsAhead(calendar, year + step) <= number) {
                    year += step;
                }
            }
            return year;
        }

        boolean locate(int calendar, int n) {
            if (!open(calendar, yearOf(calendar, n)) || n < openFirst || n >= openNext) {
                return false;
            }
            monthFound = 1;
            while (monthFound < openMonths && firstOf(monthFound + 1) <= n) {
                monthFound++;
            }
            dayFound = n - firstOf(monthFound) + 1;
            return true;
        }

        int foundYear() {
            return openYear;
        }

        int foundMonth() {
            return monthFound;
        }

        int foundDay() {
            return dayFound;
        }

        /** The weekday, or what a calendar has in its stead; n has been located. */
        int signOfDay(int calendar, int n) {
            switch (calendar) {
                case ROUND:
                    return (n + 7) % 20;
                case TOWN:
                    return (n - rowFirst[0]) % 10;
                default:
                    return n % 7;
            }
        }

        int yearsOn(int calendar, int n, int k) {
            if (!locate(calendar, n)) {
                return NONE;
            }
            if (!open(calendar, openYear + k)) {
                return OUTSIDE;
            }
            return dayOrOutside(nearestDay(monthFound, dayFound));
        }

        int monthsOn(int calendar, int n, int k) {
            if (!locate(calendar, n)) {
                return NONE;
            }
            int number = openMonthsAhead + monthFound - 1 + k;
            if (!open(calendar, yearOfMonth(calendar, number))) {
                return OUTSIDE;
            }
            int newMonth = number - openMonthsAhead + 1;
            return openYearHas(newMonth) ? dayOrOutside(nearestDay(newMonth, dayFound)) : OUTSIDE;
        }

        /** Years follow one another, so only in b's own year the added ones can come behind b. */
        int wholeYears(int calendar, int a, int b) {
            int years = yearOf(calendar, b) - yearOf(calendar, a);
            int later = yearsOn(calendar, a, years);
            return later < 0 || later > b ? years - 1 : years;
        }

        int wholeMonths(int calendar, int a, int b) {
            int k = 0;
            while (k < MOST_MONTHS_ADDED) {
                int later = monthsOn(calendar, a, k + 1);
                if (later < 0 || later > b) {
                    return k;
                }
                k++;
            }
            return k;
        }

        /**
         * The first day of a year of calendar 0 with a month and day of another calendar: of dates
         * that are there, or of the nearest ones that a year has. Three of the other's years reach
         * over every year of calendar 0, as each has more than half of its days.
         */
        int firstDayIn(int year, int calendar, int month, int day, boolean nearest) {
            int from = Math.max(0, reformedStart(year));
            int to = Math.min(LAST_DAY, reformedStart(year + 1) - 1);
            if (from > to) {
                return NONE;
            }
            int earliest = yearOf(calendar, from);
            for (int y = earliest; y <= earliest + 2; y++) {
                if (open(calendar, y) && (nearest || openYearHas(month, day))) {
                    int n = nearestDay(month, day);
                    if (n >= from && n <= to) {
                        return n;
                    }
                }
            }
            return NONE;
        }
    }

    /** The words that name months, in the order in which they came. */
    private static final class Words {
        static final int MOST = 300, MOST_A_MONTH = 3;

        private final long[] word = new long[MOST];
        private final int[] calendar = new int[MOST];
        private final int[] month = new int[MOST];
        private int held;

        int size() {
            return held;
        }

        void add(int ofCalendar, int ofMonth, long newWord) {
            if (held < MOST) {
                word[held] = newWord;
                calendar[held] = ofCalendar;
                month[held] = ofMonth;
                held++;
            }
        }

        void drop() {
            if (held > 0) {
                held--;
            }
        }

        int monthOf(int ofCalendar, long sought) {
            for (int i = 0; i < held; i++) {
                if (calendar[i] == ofCalendar && word[i] == sought) {
                    return month[i];
                }
            }
            return NONE;
        }

        int countOf(int ofCalendar, int ofMonth) {
            int words = 0;
            for (int i = 0; i < held; i++) {
                if (calendar[i] == ofCalendar && month[i] == ofMonth) {
                    words++;
                }
            }
            return words;
        }

        /** A word names at most one month of a calendar, so its entries are as many calendars. */
        int calendarsWith(long sought) {
            int calendars = 0;
            for (int i = 0; i < held; i++) {
                if (word[i] == sought) {
                    calendars++;
                }
            }
            return calendars;
        }
    }

    /**
     * The feasts and where they are placed. A year is prepared, then read; the last few years that
     * were prepared are kept, as most calls ask for years side by side.
     */
    private static final class Feasts {
        static final int MOST = 60, TOP_RANK = 9;
        private static final int FIXED = 0, WEEKDAY = 1, MOVABLE = 2, BEHIND = 3;
        private static final int SLOTS = 8;
        private static final int NO_YEAR = -1;
        private static final int LONGEST_TALLY = 366;

        private final Calendars calendars;
        private final int[] rule = new int[MOST];
        private final int[] a = new int[MOST];
        private final int[] b = new int[MOST];
        private final int[] c = new int[MOST];
        private final int[] rank = new int[MOST];
        /** The feasts' numbers, the greatest ranks first, of the same the lesser number. */
        private final int[] order = new int[MOST];
        private int held;

        private final int[] slotYear = new int[SLOTS];
        private final int[] ruleDay = new int[SLOTS * MOST];
        private final int[] place = new int[SLOTS * MOST];
        /** The days, rising, that feasts above rank 0 have while a year is laid out. */
        private final int[] taken = new int[MOST];
        private int takenCount;

        private final int[] tally = new int[LONGEST_TALLY];
        private int tallyFirst;

        Feasts(Calendars calendars) {
            this.calendars = calendars;
            Arrays.fill(slotYear, NO_YEAR);
        }

        int size() {
            return held;
        }

        boolean has(int feast) {
            return feast >= 0 && feast < held;
        }

        int rankOf(int feast) {
            return has(feast) ? rank[feast] : 0;
        }

        boolean isRule(int kind, int first, int second, int third) {
            switch (kind) {
                case FIXED:
                    return first >= 1 && first <= Calendars.MOST_MONTHS
                            && second >= 1 && second <= Calendars.LONGEST_ROW
                            && isCalendar(third) && third != Calendars.TOWN;
                case WEEKDAY:
                    return first >= 1 && first <= 12 && second >= 0 && second <= 6
                            && (third == -1 || third >= 1 && third <= 5);
                case MOVABLE:
                    return first >= -60 && first <= 100 && (second == 0 || second == 1);
                case BEHIND:
                    return has(first) && second >= -40 && second <= 40;
                default:
                    return false;
            }
        }

        void add(int kind, int first, int second, int third, int ofRank) {
            if (held < MOST) {
                rule[held] = kind;
                a[held] = first;
                b[held] = second;
                c[held] = third;
                rank[held] = ofRank;
                held++;
                renew();
            }
        }

        void drop() {
            if (held > 0) {
                held--;
                renew();
            }
        }

        /** Another set of feasts makes every place that is kept stale. */
        private void renew() {
            Arrays.fill(slotYear, NO_YEAR);
            int ordered = 0;
            for (int r = TOP_RANK; r >= 0; r--) {
                for (int feast = 0; feast < held; feast++) {
                    if (rank[feast] == r) {
                        order[ordered] = feast;
                        ordered++;
                    }
                }
            }
        }

        private static int slotOf(int year) {
            return Math.floorMod(year, SLOTS);
        }

        /** A feast goes behind one with a lesser number only, whose day is known by then. */
        void prepare(int year) {
            int slot = slotOf(year);
            if (slotYear[slot] == year) {
                return;
            }
            slotYear[slot] = year;
            int base = slot * MOST;
            for (int feast = 0; feast < held; feast++) {
                int n;
                switch (rule[feast]) {
                    case FIXED:
                        n = calendars.firstDayIn(year, c[feast], a[feast], b[feast], false);
                        break;
                    case WEEKDAY:
                        n = weekdayOfMonth(year, a[feast], b[feast], c[feast]);
                        break;
                    case MOVABLE:
                        n = movableDay(b[feast], year) + a[feast];
                        break;
                    default:
                        int leader = ruleDay[base + a[feast]];
                        n = leader == NONE ? NONE : leader + b[feast];
                        break;
                }
                ruleDay[base + feast] = isDay(n) ? n : NONE;
            }
            placeAll(base);
        }

        private int weekdayOfMonth(int year, int month, int weekday, int number) {
            if (!calendars.open(Calendars.REFORMED, year)) {
                return NONE;
            }
            int first = calendars.firstOf(month);
            int length = calendars.lengthOf(month);
            int offset = Math.floorMod(weekday - first, 7);
            int weeks = number == -1 ? (length - 1 - offset) / 7 : number - 1;
            offset += 7 * weeks;
            return offset < length ? first + offset : NONE;
        }

        /** Of a year that is there; the day may lie beyond the range. */
        int movableDay(int style, int year) {
            int calendar = style == 0 ? Calendars.REFORMED : Calendars.OLD;
            if (!calendars.open(calendar, year)) {
                return NONE;
            }
            int l = style == 0 ? reformedMoonDistance(year) : oldMoonDistance(year);
            int month = 3 + (l + 40) / 44;
            int day = l + 28 - 31 * (month / 4);
            return calendars.firstOf(month) + day - 1;
        }

        private static int oldMoonDistance(int y) {
            int g = y % 19;
            int e = (19 * g + 15) % 30;
            int j = (y + y / 4 + e) % 7;
            return e - j;
        }

        private static int reformedMoonDistance(int y) {
            int g = y % 19;
            int c = y / 100;
            int h = Math.floorMod(c - c / 4 - (8 * c + 13) / 25 + 19 * g + 15, 30);
            int i = h - (h / 28) * (1 - (29 / (h + 1)) * ((21 - g) / 11));
            int j = Math.floorMod(y + y / 4 + i + 2 - c + c / 4, 7);
            return i - j;
        }

        private void placeAll(int base) {
            takenCount = 0;
            for (int i = 0; i < held; i++) {
                int feast = order[i];
                int n = ruleDay[base + feast];
                place[base + feast] = n == NONE || rank[feast] == 0 ? n : take(n);
            }
        }

        /** Takes the first day from n on that is not taken, and keeps the taken days rising. */
        private int take(int n) {
            int at = 0;
            while (at < takenCount && taken[at] < n) {
                at++;
            }
            int free = n;
            while (at < takenCount && taken[at] == free) {
                free++;
                at++;
            }
            if (!isDay(free) || takenCount >= MOST) {
                return NONE;
            }
            for (int i = takenCount; i > at; i--) {
                taken[i] = taken[i - 1];
            }
            taken[at] = free;
            takenCount++;
            return free;
        }

        /** Of a year that is prepared. */
        int placeOf(int feast, int year) {
            int slot = slotOf(year);
            return has(feast) && slotYear[slot] == year ? place[slot * MOST + feast] : NONE;
        }

        /** Of a year that is prepared: the day ahead of all moving. */
        int ruleDayOf(int feast, int year) {
            int slot = slotOf(year);
            return has(feast) && slotYear[slot] == year ? ruleDay[slot * MOST + feast] : NONE;
        }

        /** Feast k of those on day n, of a year that is prepared. */
        int placedOn(int n, int k, int year) {
            int seen = 0;
            for (int i = 0; i < held; i++) {
                if (placeOf(order[i], year) == n) {
                    if (seen == k) {
                        return order[i];
                    }
                    seen++;
                }
            }
            return NONE;
        }

        /** Counts for each day of a stretch the feasts of its own year on it; prepares the years. */
        void tally(int from, int to) {
            Arrays.fill(tally, 0);
            tallyFirst = from;
            int lastYear = calendars.yearOf(Calendars.REFORMED, to);
            for (int year = calendars.yearOf(Calendars.REFORMED, from); year <= lastYear; year++) {
                prepare(year);
                int first = Math.max(from, Calendars.reformedStart(year));
                int last = Math.min(to, Calendars.reformedStart(year + 1) - 1);
                for (int feast = 0; feast < held; feast++) {
                    int n = placeOf(feast, year);
                    if (n >= first && n <= last && n - from < LONGEST_TALLY) {
                        tally[n - from]++;
                    }
                }
            }
        }

        int tallied(int n) {
            int at = n - tallyFirst;
            return at >= 0 && at < LONGEST_TALLY ? tally[at] : 0;
        }

        /** Feast k of those on day n, of its own year; the stretch with n has been tallied. */
        int talliedFeast(int n, int k) {
            return placedOn(n, k, calendars.yearOf(Calendars.REFORMED, n));
        }
    }

    /** The mean moon exactly, in parts of a day, and the moon as estimated. */
    private static final class Moon {
        private static final long PARTS_A_DAY = 25920, PARTS_A_MONTH = 765433, FIRST_NEW = 5604;

        static int partsSince(int n) {
            return (int) Math.floorMod(n * PARTS_A_DAY - FIRST_NEW, PARTS_A_MONTH);
        }

        static boolean newOn(int n) {
            return Math.floorMod(FIRST_NEW - n * PARTS_A_DAY, PARTS_A_MONTH) < PARTS_A_DAY;
        }

        static long dayOfNumber(int k) {
            return (FIRST_NEW + k * PARTS_A_MONTH) / PARTS_A_DAY;
        }

        static double estimated(int n) {
            double e = partsSince(n) / 25920.0;
            e = e + 0.41 * wave(n * 0.0362916 + 0.3);
            e = e + 0.174 * wave(n * 0.0027379 + 0.05);
            e = e + 0.018 * wave(n * 0.0677 + 0.7);
            e = e + 0.0115 * wave(n * 0.0734 + 0.11);
            e = e + -0.0041 * wave(n * 0.0314 + 0.5);
            return e;
        }

        static int lit(int n) {
            double light = 500.0 - 500.0 * wave(estimated(n) / 29.530594 + 0.25);
            if (light <= 0.0) {
                return 0;
            }
            return light >= 1000.0 ? 1000 : nearestEven(light);
        }

        private static double wave(double u) {
            double t = u - floor(u);
            double r = 2.0 * t - 1.0;
            double q = r * r;
            return r * (q - 1.0) * (3.140625 - q * (2.015625 - q * 0.453125));
        }

        private static double floor(double u) {
            double cut = (double) (long) u;
            return cut > u ? cut - 1.0 : cut;
        }

        /** Of a number from 0 to 1000, so that what the cut leaves is exact. */
        private static int nearestEven(double x) {
            int whole = (int) x;
            double left = x - whole;
            boolean up = left > 0.5 || left == 0.5 && whole % 2 == 1;
            return up ? whole + 1 : whole;
        }
    }

    /** The parishes and their rules. A stretch of days is surveyed, then asked day by day. */
    private static final class Parishes {
        static final int MOST = 8, MOST_RULES = 48;
        private static final int FARTHEST_REACH = 10;
        /** The longest stretch, and a day on either side, by which its ends are bridged. */
        private static final int WINDOW = MOST_DAYS_WORKED + 2;

        private final Calendars calendars;
        private final Feasts feasts;
        private final int[] weekly = new int[MOST];
        private final boolean[] bridges = new boolean[MOST];
        private int held;

        private final int[] ruleParish = new int[MOST_RULES];
        private final int[] ruleFeast = new int[MOST_RULES];
        private final int[] ruleAhead = new int[MOST_RULES];
        private final int[] ruleBehind = new int[MOST_RULES];
        private int rules;

        private final boolean[] free = new boolean[WINDOW];
        private int windowFirst;
        private int windowDays;
        private boolean bridging;

        Parishes(Calendars calendars, Feasts feasts) {
            this.calendars = calendars;
            this.feasts = feasts;
        }

        int size() {
            return held;
        }

        boolean has(int parish) {
            return parish >= 0 && parish < held;
        }

        int ruleCount() {
            return rules;
        }

        static boolean isReach(int days) {
            return days >= 0 && days <= FARTHEST_REACH;
        }

        void add(int weeklyDays, boolean mayBridge) {
            if (held < MOST) {
                weekly[held] = weeklyDays;
                bridges[held] = mayBridge;
                held++;
            }
        }

        void drop() {
            if (held > 0) {
                held--;
            }
        }

        void addRule(int parish, int feast, int ahead, int behind) {
            if (rules < MOST_RULES) {
                ruleParish[rules] = parish;
                ruleFeast[rules] = feast;
                ruleAhead[rules] = ahead;
                ruleBehind[rules] = behind;
                rules++;
            }
        }

        void dropRule() {
            if (rules > 0) {
                rules--;
            }
        }

        int rulesOf(int parish) {
            int own = 0;
            for (int i = 0; i < rules; i++) {
                if (ruleParish[i] == parish) {
                    own++;
                }
            }
            return own;
        }

        /** Finds which days from first to last, and one on either side, are free in a parish. */
        void survey(int parish, int first, int last) {
            if (!has(parish)) {
                return;
            }
            bridging = bridges[parish];
            int from = Math.max(0, first - 1);
            int to = Math.min(LAST_DAY, last + 1);
            openWindow(from, to, weekly[parish]);
            int firstYear = Math.max(0, calendars.yearOf(Calendars.REFORMED, from) - 1);
            int lastYear = Math.min(LAST_YEAR, calendars.yearOf(Calendars.REFORMED, to) + 1);
            for (int year = firstYear; year <= lastYear; year++) {
                feasts.prepare(year);
                // A feast moved or led far away counts only in its own year and the two beside it.
                int reachFirst = Math.max(from, Calendars.reformedStart(Math.max(0, year - 1)));
                int reachLast = Math.min(to, Calendars.reformedStart(year + 2) - 1);
                freeByRules(parish, year, reachFirst, reachLast);
            }
        }

        private void openWindow(int from, int to, int weekdays) {
            windowFirst = from;
            windowDays = Math.min(WINDOW, to - from + 1);
            for (int at = 0; at < windowDays; at++) {
                free[at] = (weekdays >> (from + at) % 7 & 1) == 1;
            }
        }

        private void freeByRules(int parish, int year, int from, int to) {
            for (int i = 0; i < rules; i++) {
                int n = ruleParish[i] == parish ? feasts.placeOf(ruleFeast[i], year) : NONE;
                if (n != NONE) {
                    int last = Math.min(to, n + ruleBehind[i]);
                    for (int day = Math.max(from, n - ruleAhead[i]); day <= last; day++) {
                        setFree(day);
                    }
                }
            }
        }

        private void setFree(int n) {
            if (inWindow(n)) {
                free[n - windowFirst] = true;
            }
        }

        private boolean inWindow(int n) {
            return n >= windowFirst && n - windowFirst < windowDays;
        }

        /** What is no day is not in the window: it is never free, and bridges nothing. */
        private boolean isFree(int n) {
            return inWindow(n) && free[n - windowFirst];
        }

        /** Of a day of the stretch that was surveyed last. */
        boolean off(int n) {
            return isFree(n) || bridging && isFree(n - 1) && isFree(n + 1);
        }
    }

    /** The page: lines of signs. */
    private static final class Page {
        private static final int LINES = 28, SIGNS = 40;
        private static final int FIRST_WEEK_LINE = 2;
        private static final String WEEKDAYS = "MTWTFSS";

        private final Feasts feasts;
        private final Parishes parishes;
        private final int[] signs = new int[LINES * SIGNS];

        Page(Feasts feasts, Parishes parishes) {
            this.feasts = feasts;
            this.parishes = parishes;
            Arrays.fill(signs, ' ');
        }

        private static boolean isPlace(int line, int i) {
            return line >= 0 && line < LINES && i >= 0 && i < SIGNS;
        }

        int at(int line, int i) {
            return isPlace(line, i) ? signs[line * SIGNS + i] : BAD;
        }

        private void put(int line, int i, char sign) {
            if (isPlace(line, i)) {
                signs[line * SIGNS + i] = sign;
            }
        }

        /** Writes a month whose days were surveyed and tallied; answers how many lines it has. */
        int write(int year, int month, int first, int last) {
            Arrays.fill(signs, ' ');
            int behindYear = putNumber(0, 0, year);
            putNumber(0, behindYear + 1, month);
            for (int w = 0; w < 7; w++) {
                put(1, 3 * w + 1, WEEKDAYS.charAt(w));
            }
            int monday = first - first % 7;
            for (int n = first; n <= last; n++) {
                putDay(FIRST_WEEK_LINE + (n - monday) / 7, n, n - first + 1);
            }
            int line = FIRST_WEEK_LINE + (last - monday) / 7 + 1;
            for (int n = first; n <= last && line < LINES; n++) {
                line = putFeasts(line, n, n - first + 1);
            }
            return Math.min(line, LINES);
        }

        private void putDay(int line, int n, int number) {
            int w = n % 7;
            putTwoDigits(line, 3 * w, number);
            if (feasts.tallied(n) > 0) {
                put(line, 3 * w + 2, '*');
            } else if (parishes.off(n)) {
                put(line, 3 * w + 2, '.');
            }
            if (Moon.newOn(n)) {
                put(line, 23 + w, 'o');
            }
        }

        /** Answers the line behind those of the day's feasts. */
        private int putFeasts(int line, int n, int number) {
            int many = feasts.tallied(n);
            for (int k = 0; k < many; k++) {
                int feast = feasts.talliedFeast(n, k);
                putTwoDigits(line + k, 0, number);
                putNumber(line + k, 3, feast);
                putNumber(line + k, 6, feasts.rankOf(feast));
            }
            return line + many;
        }

        private void putTwoDigits(int line, int i, int number) {
            int tens = number / 10 % 10;
            put(line, i, tens == 0 ? ' ' : (char) ('0' + tens));
            put(line, i + 1, (char) ('0' + number % 10));
        }

        /** Puts a number of 0 or more, decimal; answers the place behind it. */
        private int putNumber(int line, int i, int number) {
            int digits = 1;
            for (int left = number / 10; left > 0; left /= 10) {
                digits++;
            }
            int left = number;
            for (int at = i + digits - 1; at >= i; at--) {
                put(line, at, (char) ('0' + left % 10));
                left /= 10;
            }
            return i + digits;
        }
    }

    /** The tape of bytes on which books stand one behind the other. */
    private static final class Tape {
        /** What a book has beside a byte a day: its year, how many days, and its sum. */
        static final int AROUND_DAYS = 8;
        private static final int MOST = 1200;
        private static final int HEAD = 4, SUM = 4;

        private final int[] bytes = new int[MOST];
        private int held;

        int size() {
            return held;
        }

        boolean has(int i) {
            return i >= 0 && i < held;
        }

        boolean takes(int more) {
            return more <= MOST - held;
        }

        int at(int i) {
            return has(i) ? bytes[i] : 0;
        }

        int turn(int i, int mask) {
            if (has(i)) {
                bytes[i] ^= mask & 255;
            }
            return at(i);
        }

        void clear() {
            held = 0;
        }

        /** The lowest bytes of v, the highest of these first. */
        void append(int v, int many) {
            for (int i = many - 1; i >= 0; i--) {
                if (held < MOST) {
                    bytes[held] = v >>> 8 * i & 255;
                    held++;
                }
            }
        }

        int sum(int from, int to) {
            int s = 1;
            for (int i = from; i < to; i++) {
                int mixed = s ^ at(i);
                s = (mixed << 9 | mixed >>> 23) * 0x01000193;
            }
            return s;
        }

        /** A number of so many bytes, the highest first. */
        private int read(int from, int many) {
            int v = 0;
            for (int i = from; i < from + many; i++) {
                v = v << 8 | at(i);
            }
            return v;
        }

        /** A book has its head and its sum at least, so each turn comes nearer to the end. */
        int booksProved() {
            int books = 0;
            int begin = 0;
            while (begin < held) {
                int sumAt = begin + HEAD + read(begin + 2, 2);
                if (sumAt + SUM > held || read(sumAt, SUM) != sum(begin, sumAt)) {
                    return NONE;
                }
                books++;
                begin = sumAt + SUM;
            }
            return books == 0 ? NONE : books;
        }
    }

    /** What was laid down, the latest hundred. The oldest goes when one more comes. */
    private static final class Log {
        static final int ROW = 0, NAME = 1, FEAST = 2, PARISH = 3, RULE = 4;
        private static final int MOST = 100;

        private final int[] kinds = new int[MOST];
        private int next;
        private int held;

        int size() {
            return held;
        }

        void note(int kind) {
            kinds[next] = kind;
            next = (next + 1) % MOST;
            held = Math.min(MOST, held + 1);
        }

        /** The kind of the latest, which is not held any more; NONE if there is none. */
        int takeLatest() {
            if (held == 0) {
                return NONE;
            }
            held--;
            next = (next + MOST - 1) % MOST;
            return kinds[next];
        }
    }
}
