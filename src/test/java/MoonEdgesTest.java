/** Promises 20 to 23: moons at the very beginning and end of a day, and the bounds of the light. */
public final class MoonEdgesTest {
    private static final int BAD = AlmanacHouse.BAD, OUTSIDE = AlmanacHouse.OUTSIDE, LAST = Scenes.LAST;
    private static final long DAY = 25920, MONTH = 765433, FIRST = 5604;
    private static final Scene FURNISHED = Scenes.furnished();

    public static void main(String[] args) {
        dayZero();
        atTheBeginning();
        atTheEnd();
        onEachWeekday();
        numbers();
        lights();
        Check.done();
    }

    /** "(on day 0 the one before number 0)". */
    private static void dayZero() {
        AlmanacHouse h = new AlmanacHouse();
        Check.same("day 0", h.age(0), MONTH - FIRST);
        Check.same("day 1: number 0", h.age(1), DAY - FIRST);
        Check.same("the day on which number 1 falls", h.age(29), 29 * DAY - FIRST);
        Check.same("the next one", h.age(30), 30 * DAY - FIRST - MONTH);
    }

    /** A NEW MOON at the very beginning of a day: its age is 0, and it falls on that day. */
    private static void atTheBeginning() {
        int met = 0;
        for (int n = 1; n <= LAST; n++) {
            if ((n * DAY - FIRST) % MONTH == 0) {
                met++;
                AlmanacHouse h = new AlmanacHouse();
                int k = (int) ((n * DAY - FIRST) / MONTH);
                Check.same("age of day " + n, h.age(n), 0);
                Check.same("age of the day ahead", h.age(n - 1), MONTH - DAY);
                Check.same("moon " + k, h.newMoon(k), n);
                onPage(n);
            }
        }
        Check.same("there is such a day, and no third", met == 1 || met == 2 ? 1 : 0, 1);
    }

    /** In the last PART of a day it falls on that one yet, and is 1 PART old when the next begins. */
    private static void atTheEnd() {
        int met = 0;
        for (int k = 0; k <= 50794; k++) {
            if ((FIRST + k * MONTH) % DAY == DAY - 1) {
                met++;
                AlmanacHouse h = new AlmanacHouse();
                int n = (int) ((FIRST + k * MONTH) / DAY);
                Check.same("moon " + k, h.newMoon(k), n);
                Check.same("age of the day behind", h.age(n + 1), 1);
                Check.same("age of the day", h.age(n), MONTH - DAY + 1);
                onPage(n);
            }
        }
        Check.same("there is one", met > 0 ? 1 : 0, 1);
    }

    /** Weeks with a moon on each of their days, and weeks without. */
    private static void onEachWeekday() {
        int[] met = new int[8];
        for (int monday = 0; monday < 7 * 200; monday += 7) {
            AlmanacHouse h = new AlmanacHouse();
            h.parish(0, false);
            h.page(0, 5, h.fromDay(5, monday, 0), h.fromDay(5, monday, 1));
            int moon = 7;
            for (int w = 0; w < 7; w++) {
                long latest = ((monday + w + 1) * DAY - 1 - FIRST) / MONTH;
                boolean falls = latest * MONTH + FIRST >= (monday + w) * DAY;
                Check.same("weekday " + w + " of the week of " + monday, h.sign(2, 23 + w), falls ? 'o' : ' ');
                moon = falls ? w : moon;
            }
            met[moon]++;
        }
        for (int w = 0; w < 8; w++) {
            Check.same("such weeks there are: " + w, met[w] > 0 ? 1 : 0, 1);
        }
    }

    /** The week with day n has its sign of the moon at that day, and at no other. */
    private static void onPage(int n) {
        AlmanacHouse h = new AlmanacHouse();
        h.parish(0, false);
        h.page(0, 5, h.fromDay(5, n, 0), h.fromDay(5, n, 1));
        for (int w = 0; w < 7; w++) {
            Check.same("weekday " + w + " of the week of " + n, h.sign(2, 23 + w), w == n % 7 ? 'o' : ' ');
        }
    }

    /** "BAD: k below 0; OUTSIDE". */
    private static void numbers() {
        AlmanacHouse h = new AlmanacHouse();
        Check.same("number 0", h.newMoon(0), 0);
        Check.same("the last one", h.newMoon(50794), 1499977);
        FURNISHED.refuses("number -1", g -> g.newMoon(-1), BAD);
        FURNISHED.refuses("the least number", g -> g.newMoon(Integer.MIN_VALUE), BAD);
        FURNISHED.refuses("the one behind the last", g -> g.newMoon(50795), OUTSIDE);
        for (int k : new int[] {60000, 1 << 20, 1 << 30, Integer.MAX_VALUE}) {
            FURNISHED.refuses("number " + k, g -> g.newMoon(k), OUTSIDE);
        }
        for (int k = 0; k <= 50794; k++) {
            Check.same("number " + k, new AlmanacHouse().newMoon(k), (FIRST + k * MONTH) / DAY);
        }
    }

    private static double wave(double u) {
        double t = u - Math.floor(u);
        double r = 2.0 * t - 1.0;
        double q = r * r;
        return r * (q - 1.0) * (3.140625 - q * (2.015625 - q * 0.453125));
    }

    private static double estimate(int n) {
        double[] by = {0.41, 0.174, 0.018, 0.0115, -0.0041};
        double[] turn = {0.0362916, 0.0027379, 0.0677, 0.0734, 0.0314};
        double[] from = {0.3, 0.05, 0.7, 0.11, 0.5};
        double sum = Math.floorMod(n * DAY - FIRST, MONTH) / 25920.0;
        for (int i = 0; i < 5; i++) {
            sum += by[i] * wave(n * turn[i] + from[i]);
        }
        return sum;
    }

    /** "to the nearest whole number (of two the even one), 0 at least, 1000 at most": every day there is. */
    private static void lights() {
        int dark = 0;
        int bright = 0;
        AlmanacHouse h = new AlmanacHouse();
        for (int n = 0; n <= LAST; n++) {
            if (n % 200 == 0) {
                h = new AlmanacHouse();
            }
            double whole = Math.rint(500.0 - 500.0 * wave(estimate(n) / 29.530594 + 0.25));
            int light = (int) Math.max(0.0, Math.min(1000.0, whole));
            dark += light == 0 ? 1 : 0;
            bright += light == 1000 ? 1 : 0;
            Check.same("light of " + n, h.light(n), light);
            Check.sameDouble("estimate of " + n, h.estimate(n), estimate(n));
        }
        Check.same("there are days of light 0", dark > 0 ? 1 : 0, 1);
        Check.same("and of 1000", bright > 0 ? 1 : 0, 1);
    }
}
