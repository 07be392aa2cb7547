/** Promises 1, 38 and 39: a new object, taking back, and counts. */
public final class LaidDownTest {
    private static final int BAD = AlmanacHouse.BAD, NONE = AlmanacHouse.NONE;

    public static void main(String[] args) {
        newObject();
        eachKind();
        hundredAtMost();
        overAndOver();
        Check.done();
    }

    private static void counts(String when, AlmanacHouse h, int... due) {
        for (int what = 0; what < due.length; what++) {
            Check.same(when + ": count(" + what + ")", h.count(what), due[what]);
        }
    }

    private static void newObject() {
        AlmanacHouse h = new AlmanacHouse();
        counts("new", h, 0, 0, 0, 0, 0, 0, 0);
        Check.same("what -1", h.count(-1), BAD);
        Check.same("what 7", h.count(7), BAD);
        Check.same("no rows", h.months(7, 1), NONE);
        Check.same("no words", h.spellings(1L), 0);
        Check.same("no feasts", h.feastDay(0, 5), BAD);
        Check.same("no parishes", h.isOff(0, 5), BAD);
        Check.same("no tape", h.byteAt(0), NONE);
        Check.same("no page", h.sign(0, 0), 32);
        Check.same("no book", h.verify(), NONE);
        Check.same("nothing to take back", h.undo(), NONE);
        AlmanacHouse other = new AlmanacHouse();
        other.parish(1, true);
        other.load(1, 1);
        counts("beside another", h, 0, 0, 0, 0, 0, 0, 0);
    }

    private static void eachKind() {
        AlmanacHouse h = new AlmanacHouse();
        h.row(5, 5);
        h.name(0, 1, 7L);
        h.feast(0, 3, 9, 0, 5);
        h.feast(0, 3, 9, 0, 5);
        h.parish(0, false);
        h.rule(0, 1, 0, 0);
        h.load(9, 3);
        h.row(0, 500);
        h.name(0, 1, 7L);
        h.feast(9, 0, 0, 0, 0);
        h.parish(-1, false);
        h.rule(0, 9, 0, 0);
        counts("laid", h, 1, 1, 2, 1, 1, 6, 3);
        int second = h.feastDay(1, 2000);
        Check.same("off by the rule", h.isOff(0, second), 1);
        Check.same("moved", h.moved(1, 2000), 1);
        Check.same("the rule", h.undo(), 5);
        counts("no rule", h, 1, 1, 2, 1, 0, 5, 3);
        Check.same("not off any more", h.isOff(0, second), 0);
        Check.same("the parish", h.undo(), 4);
        Check.same("no parish", h.isOff(0, second), BAD);
        Check.same("a feast", h.undo(), 3);
        Check.same("the other one stays", h.feastDay(0, 2000), second - 1);
        h.feast(0, 3, 9, 0, 9);
        Check.same("a greater one moves it", h.feastDay(0, 2000), second);
        Check.same("taken back", h.undo(), 3);
        Check.same("it is back", h.feastDay(0, 2000), second - 1);
        Check.same("the first feast", h.undo(), 2);
        Check.same("the word", h.undo(), 1);
        Check.same("it names nothing", h.monthNamed(0, 7L), NONE);
        Check.same("the row", h.undo(), 0);
        Check.same("no row", h.fromDay(7, 5, 0), NONE);
        Check.same("nothing left", h.undo(), NONE);
        counts("all taken back", h, 0, 0, 0, 0, 0, 0, 3);
    }

    private static void hundredAtMost() {
        AlmanacHouse h = new AlmanacHouse();
        for (int i = 0; i < 130; i++) {
            h.row(2 * i, 2);
        }
        Check.same("100 at most", h.count(5), 100);
        for (int i = 99; i >= 0; i--) {
            Check.same("undo to " + i, h.undo(), i);
        }
        Check.same("no more", h.undo(), NONE);
        Check.same("30 stay", h.count(0), 30);
        Check.same("and go on", h.row(60, 1), 31);
        Check.same("one again", h.count(5), 1);
    }

    /** The kinds come back in their order when the oldest have been forgotten on the way. */
    private static void overAndOver() {
        AlmanacHouse h = new AlmanacHouse();
        for (int i = 0; i < 60; i++) {
            h.row(3 * i, 3);
            h.name(i % 8, i % 53 + 1, 1000 + i);
            h.feast(0, 1, i % 31 + 1, 0, i % 10);
        }
        Check.same("100 can be", h.count(5), 100);
        for (int i = 0; i < 7; i++) {
            h.undo();
        }
        counts("seven less", h, 58, 58, 57, 0, 0, 93, 0);
        h.parish(3, false);
        counts("a parish", h, 58, 58, 57, 1, 0, 94, 0);
        h.undo();
        h.undo();
        counts("and a word", h, 58, 57, 57, 0, 0, 92, 0);
    }
}
