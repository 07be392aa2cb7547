/** Promises 32 to 37: which years have a book, how much the tape takes, and what proves a book. */
public final class TapeEdgesTest {
    private static final int BAD = AlmanacHouse.BAD, NONE = AlmanacHouse.NONE, OUTSIDE = AlmanacHouse.OUTSIDE,
            FULL = AlmanacHouse.FULL;
    private static final int LEAST = Integer.MIN_VALUE, MOST = Integer.MAX_VALUE;
    /** Two parishes, and a tape with a book of 373 bytes and four bytes 12 34 56 78 (hexadecimal) behind it. */
    private static final Scene FURNISHED = Scenes.furnished();
    private static final Scene FULL_TAPE = Scenes.tapeOf(1200);

    public static void main(String[] args) {
        yearsOfBooks();
        roomForBooks();
        bookRefusals();
        bytesOfABook();
        fifteenFeasts();
        feastsOfThatYear();
        bridgedAtTheEnds();
        loadTaken();
        loadFull();
        bytesAsked();
        spoilt();
        wiped();
        verifyShort();
        verifyCutOff();
        verifyDays();
        verifyEachByte();
        verifyMany();
        Check.done();
    }

    /** "NONE: no such YEAR; OUTSIDE: a day of it". */
    private static void yearsOfBooks() {
        Check.same("year 1", FURNISHED.house().book(0, 1), 377 + 373);
        Check.same("year 4", FURNISHED.house().book(0, 4), 377 + 374);
        Check.same("year 4106", FURNISHED.house().book(1, 4106), 377 + 373);
        for (int year : new int[] {0, 4107, 4108, 5000}) {
            FURNISHED.refuses("book of " + year, h -> h.book(0, year), OUTSIDE);
        }
        for (int year : new int[] {-1, 5001, LEAST, MOST}) {
            FURNISHED.refuses("book of " + year, h -> h.book(0, year), NONE);
        }
        for (int parish : new int[] {-1, 2, 8, LEAST, MOST}) {
            FURNISHED.refuses("book of parish " + parish, h -> h.book(parish, 2000), BAD);
        }
        Scenes.empty().refuses("book without a parish", h -> h.book(0, 2000), BAD);
    }

    /** "FULL: it would have more than 1200". */
    private static void roomForBooks() {
        Check.same("1200 with a book of 365 days", Scenes.tapeOf(827).house().book(0, 1999), 1200);
        Check.same("1200 with a book of 366 days", Scenes.tapeOf(826).house().book(0, 2000), 1200);
        Scenes.tapeOf(828).refuses("1201 with 365 days", h -> h.book(0, 1999), FULL);
        Scenes.tapeOf(827).refuses("1201 with 366 days", h -> h.book(0, 2000), FULL);
        FULL_TAPE.refuses("a book behind 1200", h -> h.book(0, 1999), FULL);
        AlmanacHouse h = new AlmanacHouse();
        h.parish(0, false);
        for (int i = 1; i <= 3; i++) {
            Check.same("book " + i, h.book(0, 2000 + i), 373 * i);
        }
        Check.same("a fourth", h.book(0, 2005), FULL);
        Check.same("three are proved yet", h.verify(), 3);
    }

    /** BAD, then NONE, then OUTSIDE, then FULL. */
    private static void bookRefusals() {
        FULL_TAPE.refuses("BAD, not NONE", h -> h.book(1, 5001), BAD);
        FULL_TAPE.refuses("BAD, not OUTSIDE", h -> h.book(1, 0), BAD);
        FULL_TAPE.refuses("BAD, not FULL", h -> h.book(-1, 2000), BAD);
        FULL_TAPE.refuses("NONE, not FULL", h -> h.book(0, 5001), NONE);
        FULL_TAPE.refuses("OUTSIDE, not FULL", h -> h.book(0, 0), OUTSIDE);
        FULL_TAPE.refuses("OUTSIDE behind, not FULL", h -> h.book(0, 4107), OUTSIDE);
    }

    /** YEAR and number of days, the upper byte first; then the days; then the SUM, the highest byte first. */
    private static void bytesOfABook() {
        AlmanacHouse h = new AlmanacHouse();
        h.parish(64, false);
        h.feast(0, 1, 2, 0, 1);
        h.feast(0, 12, 31, 0, 1);
        h.book(0, 4106);
        int[] head = {0x10, 0x0a, 0x01, 0x6d};
        int s = 1;
        for (int i = 0; i < 4; i++) {
            Check.same("byte " + i, h.byteAt(i), head[i]);
            s = turned(s, head[i]);
        }
        int first = h.toDay(0, 4106, 1, 1);
        for (int i = 0; i < 365; i++) {
            int weekday = (first + i) % 7;
            int due = weekday + (weekday == 6 ? 8 : 0) + (i == 1 || i == 364 ? 16 : 0);
            Check.same("day " + i, h.byteAt(4 + i), due);
            s = turned(s, due);
        }
        for (int i = 0; i < 4; i++) {
            Check.same("byte " + i + " of the sum", h.byteAt(369 + i), s >>> 24 - 8 * i & 255);
        }
        Check.same("and no more", h.byteAt(373), NONE);
    }

    private static int turned(int s, int b) {
        int x = s ^ b;
        return (x << 9 | x >>> 23) * 0x01000193;
    }

    /** "16 for each FEAST .. PLACED on it, 15 at most". */
    private static void fifteenFeasts() {
        for (int feasts : new int[] {0, 1, 14, 15, 16, 60}) {
            AlmanacHouse h = new AlmanacHouse();
            h.parish(127, false);
            for (int i = 0; i < feasts; i++) {
                h.feast(0, 1, 1, 0, 0);
            }
            h.book(0, 2000);
            int weekday = Scenes.NEW_YEAR_2000 % 7;
            Check.same(feasts + " feasts", h.byteAt(4), weekday + 8 + 16 * Math.min(15, feasts));
            Check.same("the day behind", h.byteAt(5), (weekday + 1) % 7 + 8);
            Check.same("it is proved", h.verify(), 1);
        }
    }

    /** "(of that YEAR)": one of the year before that was moved onto a day is not counted, but may make it off. */
    private static void feastsOfThatYear() {
        AlmanacHouse h = new AlmanacHouse();
        h.parish(0, false);
        h.feast(0, 12, 31, 0, 5);
        h.feast(0, 12, 31, 0, 4);
        h.rule(0, 1, 0, 0);
        h.book(0, 2000);
        Check.same("the first day", h.byteAt(4), Scenes.NEW_YEAR_2000 % 7 + 8);
        Check.same("the last day", h.byteAt(369), (Scenes.NEW_YEAR_2000 + 365) % 7 + 16);
    }

    /** The first and the last day of a year are bridged by days of the years beside it. */
    private static void bridgedAtTheEnds() {
        AlmanacHouse h = new AlmanacHouse();
        int first = Scenes.NEW_YEAR_2000 % 7;
        int last = (Scenes.NEW_YEAR_2000 + 365) % 7;
        h.parish(1 << (first + 6) % 7 | 1 << (first + 1) % 7, true);
        h.parish(1 << (last + 6) % 7 | 1 << (last + 1) % 7, true);
        h.book(0, 2000);
        Check.same("the first day", h.byteAt(4), first + 8);
        Check.same("the second", h.byteAt(5), (first + 1) % 7 + 8);
        Check.same("the third", h.byteAt(6), (first + 2) % 7);
        h.wipe();
        h.book(1, 2000);
        Check.same("the last day", h.byteAt(4 + 365), last + 8);
        Check.same("the one ahead of it", h.byteAt(4 + 364), (last + 6) % 7 + 8);
        Check.same("and ahead of that", h.byteAt(4 + 363), (last + 5) % 7);
    }

    /** "The n (1 .. 4) lowest bytes of v, the highest of these first". */
    private static void loadTaken() {
        int[][] due = {{0x78}, {0x56, 0x78}, {0x34, 0x56, 0x78}, {0x92, 0x34, 0x56, 0x78}};
        for (int n = 1; n <= 4; n++) {
            AlmanacHouse h = new AlmanacHouse();
            Check.same(n + " bytes", h.load(0x92345678, n), n);
            for (int i = 0; i < n; i++) {
                Check.same("byte " + i + " of " + n, h.byteAt(i), due[n - 1][i]);
            }
            Check.same("and no more", h.byteAt(n), NONE);
        }
        for (int n : new int[] {0, 5, -1, LEAST, MOST}) {
            FURNISHED.refuses(n + " bytes", h -> h.load(1, n), BAD);
            FULL_TAPE.refuses("BAD, not FULL: " + n + " bytes", h -> h.load(1, n), BAD);
        }
    }

    /** "FULL: 1200": all bytes of a call come, or none. */
    private static void loadFull() {
        Check.same("the 1200th", Scenes.tapeOf(1199).house().load(5, 1), 1200);
        Check.same("four up to 1200", Scenes.tapeOf(1196).house().load(5, 4), 1200);
        Check.same("two up to 1199", Scenes.tapeOf(1197).house().load(5, 2), 1199);
        Scenes.tapeOf(1197).refuses("four up to 1201", h -> h.load(5, 4), FULL);
        Scenes.tapeOf(1199).refuses("two up to 1201", h -> h.load(5, 2), FULL);
        for (int n = 1; n <= 4; n++) {
            int many = n;
            FULL_TAPE.refuses(n + " behind 1200", h -> h.load(5, many), FULL);
        }
    }

    /** "Byte i of THE TAPE, 0 .. 255. NONE." */
    private static void bytesAsked() {
        AlmanacHouse h = FULL_TAPE.house();
        Check.same("byte 0", h.byteAt(0), 1);
        Check.same("byte 1199", h.byteAt(1199), 0x01020304 * 300 & 255);
        Check.same("a byte 255", Scenes.tapeOf(5).house().byteAt(4), 255);
        for (int i : new int[] {-1, 1200, LEAST, MOST}) {
            FULL_TAPE.refuses("byte " + i, g -> g.byteAt(i), NONE);
            FULL_TAPE.refuses("spoil byte " + i, g -> g.spoil(i, 1), NONE);
        }
        for (int i : new int[] {-1, 377, LEAST, MOST}) {
            FURNISHED.refuses("byte " + i, g -> g.byteAt(i), NONE);
            FURNISHED.refuses("spoil byte " + i, g -> g.spoil(i, 1), NONE);
        }
        Check.same("the last byte", FURNISHED.house().byteAt(376), 0x78);
        Scenes.empty().refuses("no byte 0", g -> g.byteAt(0), NONE);
        Scenes.empty().refuses("no byte 0 to spoil", g -> g.spoil(0, 1), NONE);
    }

    /** "it xor the lowest byte of a mask: that". */
    private static void spoilt() {
        int[] masks = {0, 1, 255, 256, 0x1ff, -1, LEAST, MOST, 0x80};
        for (int mask : masks) {
            AlmanacHouse h = FURNISHED.house();
            Check.same("byte 376 by " + mask, h.spoil(376, mask), 0x78 ^ mask & 255);
            Check.same("it is so", h.byteAt(376), 0x78 ^ mask & 255);
            Check.same("the one ahead is not", h.byteAt(375), 0x56);
            Check.same("as many as before", h.count(6), 377);
        }
        AlmanacHouse h = FULL_TAPE.house();
        Check.same("the first", h.spoil(0, 3), 2);
        Check.same("the last", h.spoil(1199, 255), 0x01020304 * 300 & 255 ^ 255);
    }

    private static void wiped() {
        AlmanacHouse h = FULL_TAPE.house();
        Check.same("1200 bytes", h.wipe(), 1200);
        Check.same("no byte 0", h.byteAt(0), NONE);
        Check.same("none to spoil", h.spoil(0, 1), NONE);
        Check.same("nothing is proved", h.verify(), NONE);
        Check.same("none again", h.wipe(), 0);
        Check.same("from the first on", h.load(7, 1), 1);
        Check.same("byte 0", h.byteAt(0), 7);
        Check.same("one byte", h.wipe(), 1);
        Check.same("none in a new house", new AlmanacHouse().wipe(), 0);
    }

    /** A tape of so many days by hand: YEAR 65535, days that are none, and the right SUM. */
    private static void loadBook(AlmanacHouse h, int days) {
        int s = 1;
        int[] head = {255, 255, days >> 8, days & 255};
        for (int b : head) {
            s = turned(s, b);
        }
        h.load(0xffff0000 | days, 4);
        for (int i = 0; i < days; i++) {
            s = turned(s, 255);
        }
        for (int left = days; left > 0; left -= 4) {
            h.load(-1, Math.min(4, left));
        }
        h.load(s, 4);
    }

    /** "NONE: it is not such, or empty": a book has eight bytes at least. */
    private static void verifyShort() {
        Check.same("empty", new AlmanacHouse().verify(), NONE);
        for (int bytes = 1; bytes <= 12; bytes++) {
            AlmanacHouse h = new AlmanacHouse();
            for (int i = 0; i < bytes; i++) {
                h.load(0, 1);
            }
            Check.same(bytes + " bytes 0", h.verify(), NONE);
        }
        AlmanacHouse h = new AlmanacHouse();
        loadBook(h, 0);
        Check.same("eight bytes, a book of no days", h.verify(), 1);
        for (int more = 1; more <= 8; more++) {
            h.load(0, 1);
            Check.same(more + " bytes behind it", h.verify(), NONE);
        }
    }

    /** A SUM that ends with a byte 0 is not there without that byte. */
    private static void verifyCutOff() {
        int met = 0;
        for (int year = 0; year < 2000; year++) {
            int s = turned(turned(turned(turned(1, year >> 8), year & 255), 0), 0);
            if ((s & 255) == 0) {
                met++;
                AlmanacHouse h = new AlmanacHouse();
                h.load(year << 16, 4);
                h.load(s >>> 8, 3);
                Check.same("seven bytes of year " + year, h.verify(), NONE);
                h.load(0, 1);
                Check.same("all eight", h.verify(), 1);
            }
        }
        Check.same("there are such years", met > 0 ? 1 : 0, 1);
    }

    /** "each by what it tells of its days (how many bytes)": neither one more nor one less. */
    private static void verifyDays() {
        for (int days : new int[] {1, 255, 256, 257, 365, 366, 1192}) {
            AlmanacHouse h = new AlmanacHouse();
            loadBook(h, days);
            Check.same(days + " days", h.verify(), 1);
            Check.same("its bytes", h.count(6), days + 8);
            h.spoil(3, 1);
            Check.same("a day more or less", h.verify(), NONE);
            h.spoil(3, 1);
            h.spoil(2, 128);
            Check.same("more than there are bytes", h.verify(), NONE);
            h.spoil(2, 128);
            Check.same("as it was", h.verify(), 1);
        }
        AlmanacHouse h = new AlmanacHouse();
        h.load(0x0001ffff, 4);
        h.load(0, 4);
        Check.same("65535 days", h.verify(), NONE);
    }

    /** "with its SUM (all else is not looked at)": any byte that is another one is found out by the SUM. */
    private static void verifyEachByte() {
        for (int i = 0; i < 373; i++) {
            AlmanacHouse h = new AlmanacHouse();
            h.parish(1, true);
            h.book(0, 2001);
            Check.same("the book", h.verify(), 1);
            h.spoil(i, 1 << i % 8);
            Check.same("byte " + i + " spoilt", h.verify(), NONE);
            h.spoil(i, 1 << i % 8);
            Check.same("byte " + i + " mended", h.verify(), 1);
        }
        FURNISHED.refuses("a book and four bytes", h -> h.verify(), NONE);
    }

    /** "one behind the other": each with a SUM of its own. */
    private static void verifyMany() {
        AlmanacHouse h = new AlmanacHouse();
        h.parish(1, true);
        for (int i = 1; i <= 40; i++) {
            loadBook(h, i % 3);
            Check.same(i + " books", h.verify(), i);
        }
        h.book(0, 2000);
        Check.same("and one of a year", h.verify(), 41);
        int last = h.count(6) - 1;
        h.spoil(last, 1);
        Check.same("the last is spoilt", h.verify(), NONE);
        h.spoil(last, 1);
        h.spoil(0, 1);
        Check.same("the first is spoilt", h.verify(), NONE);
        h.spoil(0, 1);
        Check.same("all are mended", h.verify(), 41);
        AlmanacHouse g = new AlmanacHouse();
        for (int i = 0; i < 150; i++) {
            loadBook(g, 0);
        }
        Check.same("1200 bytes of books without days", g.verify(), 150);
    }
}
