import java.util.Random;

/** Runs of up to 512 calls, held answer for answer against the plain and slow house. */
public final class RandomRunsTest {
    private static final int RUNS = 3000;
    /** The document promises 512 calls; what a step asks beyond the last few stays below that. */
    private static final int CALLS = 440;
    private static final int[] EDGES = {Integer.MIN_VALUE, Integer.MIN_VALUE + 1, -60001, -5001, -61, -41, -2, -1,
        0, 1, 2, 3, 7, 8, 53, 54, 60, 61, 100, 101, 127, 128, 200, 201, 1200, 5000, 5001, 60000, 60001, 1499999,
        1500000, 1500001, Integer.MAX_VALUE - 1, Integer.MAX_VALUE};

    private final Random random;
    private final int run;
    /** What a run is mostly about, and the year that it stays near. */
    private final int theme;
    private final int near;
    private final AlmanacHouse house = new AlmanacHouse();
    private final PlainHouse plain = new PlainHouse();
    /** 40 or -40 where feasts lead one another far out of their years, else 0. */
    private final int led;
    private int rowsEnd = 0;
    private int calls = 0;

    private RandomRunsTest(int run) {
        this.run = run;
        random = new Random(run);
        theme = run % 5;
        led = new int[] {0, 40, -40}[run / 5 % 3];
        near = new int[] {0, 1, 4106, 2000, random.nextInt(4100)}[random.nextInt(5)];
    }

    public static void main(String[] args) {
        for (int run = 1; run <= RUNS && Check.faults() == 0; run++) {
            new RandomRunsTest(run).go();
        }
        Check.done();
    }

    private int upTo(int bound) {
        return random.nextInt(bound + 1);
    }

    private int between(int low, int high) {
        return low + random.nextInt(high - low + 1);
    }

    /** Mostly a number in a range, now and then one at its edges or far off. */
    private int pick(int low, int high) {
        return switch (random.nextInt(30)) {
            case 0 -> EDGES[random.nextInt(EDGES.length)];
            case 1 -> low - 1;
            case 2 -> high + 1;
            case 3 -> low;
            case 4 -> high;
            default -> between(low, high);
        };
    }

    private int day() {
        return switch (random.nextInt(8)) {
            case 0 -> pick(0, 1500000);
            case 1 -> between(0, 500);
            case 2 -> between(1499500, 1500000);
            case 3 -> between(-3, 3);
            case 4 -> rowsEnd - between(0, 300);
            default -> Math.min(1500000, Math.max(0, near * 365 + near / 4 - near / 100 + between(-500, 500)));
        };
    }

    private int year() {
        return switch (random.nextInt(6)) {
            case 0 -> pick(0, 5000);
            case 1 -> between(4100, 4110);
            case 2 -> between(-1, 3);
            default -> near + between(-2, 2);
        };
    }

    private int calendar() {
        return random.nextInt(40) == 0 ? pick(0, 7) : upTo(7);
    }

    private void go() {
        while (calls < CALLS && Check.faults() == 0) {
            int kind = random.nextInt(10);
            if (kind < 3) {
                layDown();
            } else if (kind < 8) {
                switch (theme) {
                    case 0 -> askCalendars();
                    case 1 -> askFeasts();
                    case 2 -> askParishes();
                    case 3 -> askPages();
                    default -> useTape();
                }
            } else {
                switch (random.nextInt(6)) {
                    case 0 -> askCalendars();
                    case 1 -> askFeasts();
                    case 2 -> askMoons();
                    case 3 -> askParishes();
                    case 4 -> askPages();
                    default -> useTape();
                }
            }
        }
        for (int what = -1; what <= 7; what++) {
            same("count", house.count(what), plain.count(what), what);
        }
    }

    private void same(String call, long got, long due, long... arguments) {
        StringBuilder text = new StringBuilder("run " + run + ": " + call + "(");
        for (int i = 0; i < arguments.length; i++) {
            text.append(i == 0 ? "" : ", ").append(arguments[i]);
        }
        Check.same(text.append(")").toString(), got, due);
        calls++;
    }

    private void layDown() {
        switch (random.nextInt(12)) {
            case 0, 1 -> layRow();
            case 2 -> {
                int c = calendar();
                int m = random.nextBoolean() ? pick(1, 53) : between(1, 3);
                long w = random.nextInt(20) == 0 ? random.nextLong() : between(0, 40);
                same("name", house.name(c, m, w), plain.name(c, m, w), c, m, w);
            }
            case 3, 4, 5 -> layFeast();
            case 6 -> {
                int w = pick(0, 127);
                int days = random.nextBoolean() ? w : 1 << random.nextInt(7);
                boolean bridges = random.nextInt(3) > 0;
                same("parish", house.parish(days, bridges), plain.parish(days, bridges), days, bridges ? 1 : 0);
            }
            case 7, 8, 9 -> {
                int p = pick(0, Math.max(0, plain.count(3) - 1));
                int f = pick(0, Math.max(0, plain.count(2) - 1));
                int ahead = random.nextBoolean() ? 0 : pick(0, 10);
                int behind = random.nextBoolean() ? 0 : pick(0, 10);
                same("rule", house.rule(p, f, ahead, behind), plain.rule(p, f, ahead, behind), p, f, ahead, behind);
            }
            case 10 -> same("undo", house.undo(), plain.undo());
            default -> {
                int what = pick(0, 6);
                same("count", house.count(what), plain.count(what), what);
            }
        }
    }

    private void layRow() {
        int length = pick(1, 200);
        int first = random.nextInt(20) == 0 || plain.count(0) == 0 ? day() : rowsEnd;
        int answer = plain.row(first, length);
        same("row", house.row(first, length), answer, first, length);
        if (answer > 0) {
            rowsEnd = first + length;
        } else if (answer == -1 && random.nextBoolean()) {
            findRowsEnd();
        }
    }

    /** After rows were taken back the place of the next one is found again. */
    private void findRowsEnd() {
        int count = plain.count(0);
        if (count > 0) {
            int year = (count + 9) / 10;
            int month = count - 10 * (year - 1);
            int last = plain.toDay(7, year, month, plain.monthLength(7, year, month));
            rowsEnd = last + 1;
        }
    }

    private void layFeast() {
        int rule = random.nextInt(40) == 0 ? pick(0, 3) : upTo(3);
        if (led != 0 && plain.count(2) > 0 && random.nextInt(4) > 0) {
            rule = 3;
        }
        int rank = random.nextBoolean() ? pick(0, 9) : between(0, 2);
        int a;
        int b;
        int c = pick(0, 6);
        switch (rule) {
            case 0 -> {
                a = random.nextBoolean() ? between(1, 13) : pick(1, 53);
                b = random.nextInt(4) > 0 ? between(1, 7) : pick(1, 200);
            }
            case 1 -> {
                a = pick(1, 12);
                b = pick(0, 6);
                c = random.nextInt(4) == 0 ? -1 : pick(1, 5);
            }
            case 2 -> {
                a = random.nextBoolean() ? between(-3, 3) : pick(-60, 100);
                b = pick(0, 1);
            }
            default -> {
                a = random.nextBoolean() ? plain.count(2) - 1 : pick(0, Math.max(0, plain.count(2) - 1));
                b = random.nextBoolean() ? between(-3, 3) : pick(-40, 40);
                if (led != 0 && random.nextInt(8) > 0) {
                    a = plain.count(2) - 1;
                    b = led;
                }
            }
        }
        same("feast", house.feast(rule, a, b, c, rank), plain.feast(rule, a, b, c, rank), rule, a, b, c, rank);
    }

    private void askCalendars() {
        int c = calendar();
        int n = day();
        int y = random.nextInt(4) == 0 || c == 7 ? between(0, 6) : year();
        int m = pick(1, c == 5 ? 53 : 13);
        int d = pick(1, 31);
        int what = pick(0, 4);
        switch (random.nextInt(12)) {
            case 0 -> same("toDay", house.toDay(c, y, m, d), plain.toDay(c, y, m, d), c, y, m, d);
            case 1 -> same("fromDay", house.fromDay(c, n, what), plain.fromDay(c, n, what), c, n, what);
            case 2 -> same("monthLength", house.monthLength(c, y, m), plain.monthLength(c, y, m), c, y, m);
            case 3 -> same("yearLength", house.yearLength(c, y), plain.yearLength(c, y), c, y);
            case 4 -> same("months", house.months(c, y), plain.months(c, y), c, y);
            case 5 -> {
                int k = random.nextBoolean() ? between(-60, 60) : pick(-60000, 60000);
                same("addMonths", house.addMonths(c, n, k), plain.addMonths(c, n, k), c, n, k);
            }
            case 6 -> {
                int k = random.nextBoolean() ? between(-6, 6) : pick(-5000, 5000);
                same("addYears", house.addYears(c, n, k), plain.addYears(c, n, k), c, n, k);
            }
            case 7, 8 -> {
                int b = random.nextBoolean() ? n + between(-10, 1500) : day();
                int part = pick(0, 2);
                same("difference", house.difference(c, n, b, part), plain.difference(c, n, b, part), c, n, b, part);
            }
            case 9 -> {
                int of = year();
                same("birthday", house.birthday(c, n, of), plain.birthday(c, n, of), c, n, of);
            }
            case 10 -> {
                long w = between(0, 40);
                same("monthNamed", house.monthNamed(c, w), plain.monthNamed(c, w), c, w);
            }
            default -> {
                long w = between(0, 40);
                same("spellings", house.spellings(w), plain.spellings(w), w);
            }
        }
    }

    private void askFeasts() {
        int f = pick(0, Math.max(0, plain.count(2) - 1));
        int y = year();
        switch (random.nextInt(5)) {
            case 0, 1 -> {
                same("feastDay", house.feastDay(f, y), plain.feastDay(f, y), f, y);
                int n = plain.feastDay(f, y);
                int k = between(-1, 4);
                same("feastOn", house.feastOn(n, k), plain.feastOn(n, k), n, k);
            }
            case 2 -> same("moved", house.moved(f, y), plain.moved(f, y), f, y);
            case 3 -> {
                int style = pick(0, 1);
                same("movable", house.movable(style, y), plain.movable(style, y), style, y);
            }
            default -> {
                int n = day();
                int k = pick(0, 3);
                same("feastOn", house.feastOn(n, k), plain.feastOn(n, k), n, k);
            }
        }
    }

    private void askMoons() {
        int n = day();
        int k = pick(0, 50800);
        same("age", house.age(n), plain.age(n), n);
        same("newMoon", house.newMoon(k), plain.newMoon(k), k);
        Check.sameDouble("run " + run + ": estimate(" + n + ")", house.estimate(n), plain.estimate(n));
        same("light", house.light(n), plain.light(n), n);
    }

    private int dayNearFeast() {
        int n = plain.feastDay(Math.max(0, upTo(Math.max(0, plain.count(2) - 1))), year());
        return n < 0 || random.nextInt(3) == 0 ? day() : n + between(-12, 12);
    }

    private void askParishes() {
        int p = pick(0, Math.max(0, plain.count(3) - 1));
        int n = dayNearFeast();
        switch (random.nextInt(5)) {
            case 0, 1 -> same("isOff", house.isOff(p, n), plain.isOff(p, n), p, n);
            case 2 -> {
                int to = random.nextInt(10) == 0 ? pick(0, 1500000) : n + between(-2, 802);
                same("worked", house.worked(p, n, to), plain.worked(p, n, to), p, n, to);
            }
            case 3 -> same("nextOff", house.nextOff(p, n), plain.nextOff(p, n), p, n);
            default -> same("inRow", house.inRow(p, n), plain.inRow(p, n), p, n);
        }
    }

    private void askPages() {
        int p = pick(0, Math.max(0, plain.count(3) - 1));
        int c = calendar();
        int n = dayNearFeast();
        int y = year();
        int m = pick(1, 13);
        if (random.nextBoolean() && plain.fromDay(c, n, 0) >= 0) {
            y = plain.fromDay(c, n, 0);
            m = plain.fromDay(c, n, 1);
        }
        same("page", house.page(p, c, y, m), plain.page(p, c, y, m), p, c, y, m);
        if (random.nextBoolean()) {
            layFeast();
        }
        for (int many = 0; many < 40; many++) {
            int line = random.nextInt(10) == 0 ? pick(0, 27) : upTo(12);
            int i = random.nextInt(10) == 0 ? pick(0, 39) : upTo(30);
            same("sign", house.sign(line, i), plain.sign(line, i), line, i);
        }
    }

    private void useTape() {
        int size = plain.count(6);
        switch (random.nextInt(12)) {
            case 0, 1 -> {
                int p = pick(0, Math.max(0, plain.count(3) - 1));
                int y = year();
                same("book", house.book(p, y), plain.book(p, y), p, y);
            }
            case 2 -> {
                int v = random.nextInt();
                int n = pick(1, 4);
                same("load", house.load(v, n), plain.load(v, n), v, n);
            }
            case 3 -> loadBook();
            case 4 -> {
                int i = pick(0, Math.max(0, size - 1));
                int mask = random.nextInt();
                same("spoil", house.spoil(i, mask), plain.spoil(i, mask), i, mask);
                same("verify", house.verify(), plain.verify());
                if (random.nextInt(4) > 0) {
                    same("spoil", house.spoil(i, mask), plain.spoil(i, mask), i, mask);
                }
            }
            case 5 -> {
                if (random.nextInt(3) == 0) {
                    same("wipe", house.wipe(), plain.wipe());
                }
            }
            case 6, 7, 8 -> same("verify", house.verify(), plain.verify());
            default -> {
                int i = pick(0, Math.max(0, size - 1));
                same("byteAt", house.byteAt(i), plain.byteAt(i), i);
            }
        }
    }

    /** A book of a few days by hand: with none of them, too. */
    private void loadBook() {
        int days = upTo(3);
        int s = 1;
        int[] bytes = new int[4 + days];
        for (int i = 0; i < bytes.length; i++) {
            bytes[i] = i == 2 ? 0 : i == 3 ? days : random.nextInt(256);
            s = Integer.rotateLeft(s ^ bytes[i], 9) * 0x01000193;
            same("load", house.load(bytes[i], 1), plain.load(bytes[i], 1), bytes[i], 1);
        }
        same("load", house.load(s, 4), plain.load(s, 4), s, 4);
        same("verify", house.verify(), plain.verify());
    }
}
