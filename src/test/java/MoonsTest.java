/** Promises 20 to 23: the mean moon in parts, and the estimated one in doubles. */
public final class MoonsTest {
    private static final int BAD = AlmanacHouse.BAD, OUTSIDE = AlmanacHouse.OUTSIDE;

    public static void main(String[] args) {
        ages();
        newMoons();
        estimates();
        against();
        Check.done();
    }

    private static void ages() {
        AlmanacHouse h = new AlmanacHouse();
        Check.same("day 0", h.age(0), 765433 - 5604);
        Check.same("day 1", h.age(1), 25920 - 5604);
        Check.same("day 29", h.age(29), 29 * 25920 - 5604);
        Check.same("day 30", h.age(30), 30 * 25920 - 5604 - 765433);
        Check.same("the last day", h.age(1500000), 590594);
        Check.same("no day", h.age(-1), OUTSIDE);
        Check.same("no day behind", h.age(1500001), OUTSIDE);
        Check.same("far", h.age(Integer.MIN_VALUE), OUTSIDE);
    }

    private static void newMoons() {
        AlmanacHouse h = new AlmanacHouse();
        Check.same("number 0", h.newMoon(0), 0);
        Check.same("number 1", h.newMoon(1), 29);
        Check.same("number 2", h.newMoon(2), 59);
        Check.same("the last one", h.newMoon(50794), 1499977);
        Check.same("behind it", h.newMoon(50795), OUTSIDE);
        Check.same("far", h.newMoon(Integer.MAX_VALUE), OUTSIDE);
        Check.same("below 0", h.newMoon(-1), BAD);
        Check.same("far below 0", h.newMoon(Integer.MIN_VALUE), BAD);
    }

    private static void estimates() {
        AlmanacHouse h = new AlmanacHouse();
        Check.sameDouble("day 0", h.estimate(0), 29.748126491503992);
        Check.sameDouble("day 738000", h.estimate(738000), 0.6161429097136478);
        Check.sameDouble("the last day", h.estimate(1500000), 22.283599438966384);
        Check.sameDouble("no day", h.estimate(-1), -1.0);
        Check.sameDouble("no day behind", h.estimate(1500001), -1.0);
        Check.same("light of day 0", h.light(0), 1);
        Check.same("light of day 738000", h.light(738000), 5);
        Check.same("light of the last day", h.light(1500000), 486);
        Check.same("no light", h.light(-1), OUTSIDE);
        Check.same("no light behind", h.light(1500001), OUTSIDE);
    }

    private static void against() {
        PlainHouse plain = new PlainHouse();
        AlmanacHouse h = new AlmanacHouse();
        int dark = 0;
        int full = 0;
        for (int n = 0; n <= 1500000; n += 7) {
            if (n % 700 == 0) {
                h = new AlmanacHouse();
            }
            Check.same("age of " + n, h.age(n), plain.age(n));
            Check.sameDouble("estimate of " + n, h.estimate(n), plain.estimate(n));
            Check.same("light of " + n, h.light(n), plain.light(n));
            dark += plain.light(n) == 0 ? 1 : 0;
            full += plain.light(n) == 1000 ? 1 : 0;
        }
        Check.same("there are dark days", dark > 0 ? 1 : 0, 1);
        Check.same("there are bright days", full > 0 ? 1 : 0, 1);
    }
}
