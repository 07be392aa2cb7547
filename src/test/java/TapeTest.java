/** Promises 32 to 37: the tape, and books that prove themselves. */
public final class TapeTest {
    private static final int BAD = AlmanacHouse.BAD, NONE = AlmanacHouse.NONE, OUTSIDE = AlmanacHouse.OUTSIDE,
            FULL = AlmanacHouse.FULL;

    public static void main(String[] args) {
        book();
        bookRefusals();
        manyFeasts();
        ownYearOnly();
        load();
        spoilAndWipe();
        verify();
        Check.done();
    }

    private static void book() {
        AlmanacHouse h = new AlmanacHouse();
        h.parish(96, false);
        h.feast(0, 1, 2, 0, 0);
        h.feast(0, 1, 2, 0, 5);
        Check.same("8 and a byte a day", h.book(0, 2023), 373);
        Check.same("year", h.byteAt(0) * 256 + h.byteAt(1), 2023);
        Check.same("days", h.byteAt(2) * 256 + h.byteAt(3), 365);
        int first = h.toDay(0, 2023, 1, 1);
        int s = 1;
        for (int i = 0; i < 369; i++) {
            int got = h.byteAt(i);
            if (i >= 4) {
                int weekday = (first + i - 4) % 7;
                Check.same("byte " + i, got, weekday + (weekday >= 5 ? 8 : 0) + (i == 5 ? 32 : 0));
            }
            s = Integer.rotateLeft(s ^ got, 9) * 0x01000193;
        }
        for (int i = 0; i < 4; i++) {
            Check.same("sum " + i, h.byteAt(369 + i), s >>> 24 - 8 * i & 255);
        }
        Check.same("a leap year behind it", h.book(0, 2024), 373 + 374);
        Check.same("its year", h.byteAt(373) * 256 + h.byteAt(374), 2024);
        Check.same("its days", h.byteAt(375) * 256 + h.byteAt(376), 366);
        Check.same("a third", h.book(0, 4106), 373 + 374 + 373);
        Check.same("FULL", h.book(0, 1), FULL);
        Check.same("refused books change nothing", h.count(6), 1120);
        Check.same("three books", h.verify(), 3);
    }

    private static void bookRefusals() {
        AlmanacHouse h = new AlmanacHouse();
        Check.same("no parish", h.book(0, -1), BAD);
        h.parish(0, false);
        Check.same("no parish -1", h.book(-1, 5), BAD);
        Check.same("no year", h.book(0, 5001), NONE);
        Check.same("no year -1", h.book(0, -1), NONE);
        Check.same("year 0 begins ahead of day 0", h.book(0, 0), OUTSIDE);
        Check.same("4107 ends behind the last day", h.book(0, 4107), OUTSIDE);
        Check.same("5000", h.book(0, 5000), OUTSIDE);
        h.book(0, 1);
        h.book(0, 1);
        h.book(0, 1);
        Check.same("OUTSIDE ahead of FULL", h.book(0, 0), OUTSIDE);
        Check.same("up to 1200", h.wipe(), 1119);
        for (int i = 0; i < 206; i++) {
            h.load(0, 4);
        }
        Check.same("bytes", h.load(0, 3), 827);
        Check.same("exactly 1200", h.book(0, 1), 1200);
        h.wipe();
        for (int i = 0; i < 207; i++) {
            h.load(0, 4);
        }
        Check.same("one too many", h.book(0, 1), FULL);
    }

    private static void manyFeasts() {
        AlmanacHouse h = new AlmanacHouse();
        h.parish(0, false);
        for (int i = 0; i < 20; i++) {
            h.feast(0, 1, 1, 0, 0);
        }
        h.rule(0, 3, 0, 1);
        h.book(0, 2000);
        int weekday = h.toDay(0, 2000, 1, 1) % 7;
        Check.same("15 at most, and off", h.byteAt(4), weekday + 8 + 240);
        Check.same("off", h.byteAt(5), (weekday + 1) % 7 + 8);
        Check.same("not off", h.byteAt(6), (weekday + 2) % 7);
    }

    private static void ownYearOnly() {
        AlmanacHouse h = new AlmanacHouse();
        h.parish(0, false);
        h.feast(0, 12, 31, 0, 0);
        h.feast(3, 0, 1, 0, 0);
        h.rule(0, 1, 0, 0);
        h.book(0, 2000);
        int weekday = h.toDay(0, 2000, 1, 1) % 7;
        Check.same("off by the year before, but no feast of this one", h.byteAt(4), weekday + 8);
        Check.same("the last day's feast", h.byteAt(4 + 365), (weekday + 365) % 7 + 16);
    }

    private static void load() {
        AlmanacHouse h = new AlmanacHouse();
        Check.same("n 0", h.load(5, 0), BAD);
        Check.same("n 5", h.load(5, 5), BAD);
        Check.same("two", h.load(0x12345678, 2), 2);
        Check.same("four", h.load(0x89abcdef, 4), 6);
        int[] due = {0x56, 0x78, 0x89, 0xab, 0xcd, 0xef};
        for (int i = 0; i < due.length; i++) {
            Check.same("byte " + i, h.byteAt(i), due[i]);
        }
        Check.same("no byte 6", h.byteAt(6), NONE);
        Check.same("no byte -1", h.byteAt(-1), NONE);
        for (int i = 0; i < 298; i++) {
            h.load(-1, 4);
        }
        Check.same("1198 and 3", h.load(0, 3), FULL);
        Check.same("BAD ahead of FULL", h.load(0, 5), BAD);
        Check.same("1198 and 2", h.load(0, 2), 1200);
        Check.same("no more", h.load(0, 1), FULL);
        Check.same("the last", h.byteAt(1199), 0);
        Check.same("the one ahead of these", h.byteAt(1197), 255);
        Check.same("none behind", h.byteAt(1200), NONE);
    }

    private static void spoilAndWipe() {
        AlmanacHouse h = new AlmanacHouse();
        Check.same("nothing to spoil", h.spoil(0, 1), NONE);
        Check.same("nothing to wipe", h.wipe(), 0);
        h.load(0xf0, 1);
        Check.same("by the lowest byte", h.spoil(0, 0x1ff), 0x0f);
        Check.same("it is so", h.byteAt(0), 0x0f);
        Check.same("by none", h.spoil(0, 0x100), 0x0f);
        Check.same("no byte 1", h.spoil(1, 1), NONE);
        Check.same("no byte -1", h.spoil(-1, 1), NONE);
        Check.same("wiped", h.wipe(), 1);
        Check.same("empty", h.count(6), 0);
        Check.same("no byte", h.byteAt(0), NONE);
        Check.same("nothing is taken back by it", h.undo(), NONE);
    }

    private static void verify() {
        AlmanacHouse h = new AlmanacHouse();
        Check.same("empty", h.verify(), NONE);
        h.parish(1, true);
        h.book(0, 77);
        Check.same("one", h.verify(), 1);
        for (int i : new int[] {0, 1, 2, 3, 4, 200, 368, 369, 372}) {
            h.spoil(i, 1);
            Check.same("byte " + i + " spoilt", h.verify(), NONE);
            h.spoil(i, 1);
        }
        Check.same("mended", h.verify(), 1);
        h.load(0, 1);
        Check.same("a byte more", h.verify(), NONE);
        h.wipe();
        h.load(7, 3);
        Check.same("too short for a head", h.verify(), NONE);
        h.wipe();
        emptyBook(h);
        Check.same("a book of no days", h.verify(), 1);
        h.book(0, 78);
        emptyBook(h);
        Check.same("three", h.verify(), 3);
        h.wipe();
        h.load(0xffff, 4);
        h.load(0, 4);
        Check.same("more days than there are bytes", h.verify(), NONE);
    }

    /** The rest of a book is not looked at: not its year, not whether it has days. */
    private static void emptyBook(AlmanacHouse h) {
        int s = 1;
        for (int b : new int[] {255, 254, 0, 0}) {
            s = Integer.rotateLeft(s ^ b, 9) * 0x01000193;
        }
        h.load(0xfffe0000, 4);
        h.load(s, 4);
    }
}
