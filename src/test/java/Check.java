/** Counts the answers that are not as due; a test ends by done(). */
final class Check {
    private static int looked = 0;
    private static int wrong = 0;

    private Check() {
    }

    static void same(String what, long got, long due) {
        looked++;
        if (got != due) {
            tell(what, String.valueOf(got), String.valueOf(due));
        }
    }

    static void sameDouble(String what, double got, double due) {
        looked++;
        if (Double.doubleToRawLongBits(got) != Double.doubleToRawLongBits(due)) {
            tell(what, String.valueOf(got), String.valueOf(due));
        }
    }

    static void sameText(String what, String got, String due) {
        looked++;
        if (!got.equals(due)) {
            tell(what, "[" + got + "]", "[" + due + "]");
        }
    }

    static int faults() {
        return wrong;
    }

    private static void tell(String what, String got, String due) {
        wrong++;
        if (wrong <= 50) {
            System.out.println(what + " answered " + got + ", due is " + due);
        }
    }

    static void done() {
        System.out.println(looked + " answers looked at, " + wrong + " not as due");
        if (wrong != 0 || looked == 0) {
            System.exit(1);
        }
    }
}
