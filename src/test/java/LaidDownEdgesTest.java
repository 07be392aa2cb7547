import java.util.function.Consumer;

/** Promises 1, 38 and 39: a new object has nothing, a hundred can be taken back, and what is counted. */
public final class LaidDownEdgesTest {
    private static final int BAD = AlmanacHouse.BAD, NONE = AlmanacHouse.NONE, LAST = Scenes.LAST;
    private static final Scene EMPTY = Scenes.empty();
    private static final Scene FURNISHED = Scenes.furnished();

    public static void main(String[] args) {
        newObject();
        newObjectIsAlone();
        nothingToTakeBack();
        eachKindAlone();
        asIfItHadNotBeen();
        aHundred();
        aHundredOfEachKind();
        forgottenStays();
        notLaidDown();
        pageAndTapeStay();
        counted();
        Check.done();
    }

    /** "No ROWS, words, FEASTS, PARISHES; THE TAPE, THE PAGE, THE BOOK are empty." */
    private static void newObject() {
        AlmanacHouse h = new AlmanacHouse();
        for (int what = 0; what <= 6; what++) {
            Check.same("count(" + what + ")", h.count(what), 0);
        }
        Check.same("no year of the town", h.months(7, 1), NONE);
        for (int calendar = 0; calendar <= 7; calendar++) {
            Check.same("no word of " + calendar, h.monthNamed(calendar, 1L), NONE);
        }
        Check.same("no spelling", h.spellings(1L), 0);
        Check.same("no feast 0", h.feastDay(0, 2000), BAD);
        Check.same("no feast on day 0", h.feastOn(0, 0), NONE);
        Check.same("no parish 0", h.isOff(0, 0), BAD);
        Check.same("no byte 0", h.byteAt(0), NONE);
        Check.same("no book", h.verify(), NONE);
        Check.same("a blank page", h.sign(0, 0), 32);
        Check.same("nothing to wipe", h.wipe(), 0);
        Check.same("nothing to take back", h.undo(), NONE);
    }

    private static void newObjectIsAlone() {
        AlmanacHouse h = new AlmanacHouse();
        AlmanacHouse other = FURNISHED.house();
        for (int what = 0; what <= 6; what++) {
            Check.same("beside another: count(" + what + ")", h.count(what), 0);
        }
        Check.same("its page", h.sign(0, 0), 32);
        Check.same("the other has its own", other.count(2), 5);
    }

    private static void nothingToTakeBack() {
        EMPTY.refuses("undo in an empty house", AlmanacHouse::undo, NONE);
        AlmanacHouse h = new AlmanacHouse();
        h.parish(1, false);
        Check.same("the only one", h.undo(), 0);
        Check.same("no more", h.undo(), NONE);
        Check.same("nor again", h.undo(), NONE);
        Check.same("and one comes again", h.parish(1, false), 0);
        Check.same("that can be taken back", h.count(5), 1);
    }

    private static void eachKindAlone() {
        int[] before = {12, 3, 5, 2, 2};
        Scene[] more = {Scenes.furnished().then(h -> h.row(460, 5)), Scenes.furnished().then(h -> h.name(3, 4, 5L)),
            Scenes.furnished().then(h -> h.feast(0, 1, 1, 0, 9)), Scenes.furnished().then(h -> h.parish(5, true)),
            Scenes.furnished().then(h -> h.rule(0, 0, 1, 1))};
        for (int kind = 0; kind < more.length; kind++) {
            AlmanacHouse h = more[kind].house();
            Check.same("one more of " + kind, h.count(kind), before[kind] + 1);
            Check.same("25 can be taken back", h.count(5), 25);
            Check.same("one is", h.undo(), 24);
            for (int what = 0; what < before.length; what++) {
                Check.same("of " + kind + " taken back: count(" + what + ")", h.count(what), before[what]);
            }
        }
    }

    /** Behind a call and undo() everything is answered as without both. */
    private static void asIfItHadNotBeen() {
        Consumer<AlmanacHouse> row = h -> h.row(460, 200);
        Consumer<AlmanacHouse> word = h -> h.name(0, 1, 3L);
        Consumer<AlmanacHouse> feast = h -> h.feast(0, 1, 1, 0, 9);
        Consumer<AlmanacHouse> parish = h -> h.parish(127, true);
        Consumer<AlmanacHouse> rule = h -> h.rule(0, 0, 10, 10);
        int number = 0;
        for (Consumer<AlmanacHouse> call : java.util.List.of(row, word, feast, parish, rule)) {
            FURNISHED.refuses("kind " + number + " and back", h -> {
                call.accept(h);
                return h.undo();
            }, 24);
            FURNISHED.refuses("kind " + number + ", looked at, and back", h -> {
                call.accept(h);
                h.feastDay(0, 2000);
                h.isOff(0, Scenes.NEW_YEAR_2000);
                return h.undo();
            }, 24);
            number++;
        }
        EMPTY.refuses("the first row and back", h -> {
            row.accept(h);
            return h.undo();
        }, 0);
    }

    /** "how many can be taken back yet (100 at most)". */
    private static void aHundred() {
        for (int laid : new int[] {99, 100, 101, 130}) {
            AlmanacHouse h = new AlmanacHouse();
            for (int i = 0; i < laid; i++) {
                h.row(i, 1);
            }
            int can = Math.min(100, laid);
            Check.same(laid + " laid down", h.count(5), can);
            for (int left = can - 1; left >= 0; left--) {
                Check.same("of " + laid + " taken back, left", h.undo(), left);
            }
            Check.same("of " + laid + ": no more", h.undo(), NONE);
            Check.same("of " + laid + ": stay", h.count(0), laid - can);
            Check.same("none can be", h.count(5), 0);
        }
    }

    /** 40 of each of three kinds by turns: 120, of which the latest 100 are taken back in their order. */
    private static void aHundredOfEachKind() {
        AlmanacHouse h = new AlmanacHouse();
        int[] many = {0, 0, 0};
        for (int i = 0; i < 120; i++) {
            switch (i % 3) {
                case 0 -> h.row(i, 3);
                case 1 -> h.name(i % 8, i % 53 + 1, i);
                default -> h.feast(0, 1, 1, 0, 1);
            }
            many[i % 3]++;
        }
        for (int i = 119; i >= 20; i--) {
            Check.same("undo of " + i, h.undo(), i - 20);
            many[i % 3]--;
            for (int kind = 0; kind < 3; kind++) {
                Check.same("count(" + kind + ") behind it", h.count(kind), many[kind]);
            }
        }
        Check.same("no more", h.undo(), NONE);
    }

    /** What was forgotten behind a hundred stays so, though some of the hundred were taken back. */
    private static void forgottenStays() {
        AlmanacHouse h = new AlmanacHouse();
        for (int i = 0; i < 101; i++) {
            h.row(i, 1);
        }
        Check.same("100 can be", h.count(5), 100);
        Check.same("99 yet", h.undo(), 99);
        Check.same("one comes", h.row(100, 1), 101);
        Check.same("100 again", h.count(5), 100);
        Check.same("one more", h.row(101, 1), 102);
        Check.same("100 yet", h.count(5), 100);
        Scene full = Scenes.fullOfRows(LAST);
        Check.same("of 500 rows", full.house().undo(), 99);
    }

    /** Only row(), name(), feast(), parish(), rule() are taken back. */
    private static void notLaidDown() {
        AlmanacHouse h = new AlmanacHouse();
        h.parish(1, true);
        h.page(0, 0, 2000, 1);
        h.book(0, 2000);
        h.load(1, 1);
        h.spoil(0, 1);
        h.wipe();
        h.verify();
        h.isOff(0, 5);
        Check.same("the parish alone", h.count(5), 1);
        Check.same("is taken back", h.undo(), 0);
        Check.same("no parish", h.count(3), 0);
    }

    private static void pageAndTapeStay() {
        AlmanacHouse h = FURNISHED.house();
        int bytes = h.count(6);
        for (int i = 23; i >= 0; i--) {
            Check.same("undo", h.undo(), i);
        }
        Check.same("the tape stays", h.count(6), bytes);
        Check.same("its first byte", h.byteAt(1), 1999 & 255);
        Check.same("the page stays", h.sign(0, 0), '2');
        for (int what = 0; what <= 5; what++) {
            Check.same("all is taken back: " + what, h.count(what), 0);
        }
    }

    /** "0 ROWS .. 6 bytes of THE TAPE. BAD." */
    private static void counted() {
        int[] due = {12, 3, 5, 2, 2, 24, 377};
        for (int what = 0; what <= 6; what++) {
            Check.same("count(" + what + ")", FURNISHED.house().count(what), due[what]);
        }
        for (int what : new int[] {-1, 7, Integer.MIN_VALUE, Integer.MAX_VALUE}) {
            FURNISHED.refuses("count(" + what + ")", h -> h.count(what), BAD);
            EMPTY.refuses("count(" + what + ")", h -> h.count(what), BAD);
        }
        Check.same("500 rows", Scenes.fullOfRows(LAST).house().count(0), 500);
        Check.same("300 words", Scenes.fullOfWords().house().count(1), 300);
        Check.same("60 feasts", Scenes.fullOfFeasts().house().count(2), 60);
        Check.same("8 parishes", Scenes.fullOfParishes().house().count(3), 8);
        Check.same("48 rules", Scenes.fullOfRules().house().count(4), 48);
        Check.same("1200 bytes", Scenes.tapeOf(1200).house().count(6), 1200);
    }
}
