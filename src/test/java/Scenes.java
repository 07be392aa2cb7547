/** The scenes in which refusals are looked at: nothing laid down, something of each kind, and each kind full. */
final class Scenes {
    static final int LAST = 1500000;
    /** The first day of year 2000 of calendar 0, near which most scenes have their feasts. */
    static final int NEW_YEAR_2000 = 730425;

    private Scenes() {
    }

    static Scene empty() {
        return new Scene("empty");
    }

    /** 12 rows, 3 words, 5 feasts (0 to 4), 2 parishes, 2 rules, a page, and a book with four bytes behind it. */
    static Scene furnished() {
        return new Scene("furnished")
                .times(12, (h, i) -> h.row(100 + 30 * i, 30))
                .then(h -> h.name(0, 1, 1L))
                .then(h -> h.name(0, 1, 2L))
                .then(h -> h.name(7, 53, 1L))
                .then(h -> h.feast(0, 1, 1, 0, 5))
                .then(h -> h.feast(0, 1, 1, 0, 3))
                .then(h -> h.feast(2, 0, 0, 0, 9))
                .then(h -> h.feast(3, 2, 39, 0, 0))
                .then(h -> h.feast(1, 1, 6, -1, 1))
                .then(h -> h.parish(96, true))
                .then(h -> h.parish(1, false))
                .then(h -> h.rule(0, 1, 2, 3))
                .then(h -> h.rule(1, 0, 0, 1))
                .then(h -> h.page(0, 0, 2000, 1))
                .then(h -> h.book(0, 1999))
                .then(h -> h.load(0x12345678, 4));
    }

    /** 500 rows, the last of them up to the day that is told. */
    static Scene fullOfRows(int lastDay) {
        return new Scene("500 rows").times(500, (h, i) -> h.row(lastDay - 499 + i, 1));
    }

    /** 300 words: 1 to 300, three a month, 150 in calendar 0 and 150 in calendar 1. */
    static Scene fullOfWords() {
        return new Scene("300 words").times(300, (h, i) -> h.name(i / 150, i / 3 % 50 + 1, i + 1));
    }

    static Scene fullOfFeasts() {
        return new Scene("60 feasts").times(60, (h, i) -> h.feast(0, i % 12 + 1, i % 28 + 1, 0, i % 10));
    }

    static Scene fullOfParishes() {
        return new Scene("8 parishes").times(8, (h, i) -> h.parish(1 << i % 7, i % 2 == 0));
    }

    /** Two parishes, 48 rules, turn by turn. */
    static Scene fullOfRules() {
        return new Scene("48 rules").then(h -> h.feast(0, 1, 1, 0, 1)).times(2, (h, i) -> h.parish(0, false))
                .times(48, (h, i) -> h.rule(i % 2, 0, i % 11, 10 - i % 11));
    }

    /** A tape of so many bytes, and a parish. */
    static Scene tapeOf(int bytes) {
        Scene scene = new Scene(bytes + " bytes").then(h -> h.parish(1, false));
        scene.times(bytes / 4, (h, i) -> h.load(0x01020304 * (i + 1), 4));
        return bytes % 4 == 0 ? scene : scene.then(h -> h.load(-1, bytes % 4));
    }
}
