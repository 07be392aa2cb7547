import java.lang.reflect.Constructor;
import java.lang.reflect.Field;
import java.lang.reflect.Method;
import java.lang.reflect.Modifier;
import java.util.Arrays;
import java.util.Set;
import java.util.TreeSet;

/** The public face, member for member, and that no argument makes any call throw. */
public final class FaceTest {
    private static final String[] FACE = {"int toDay(int,int,int,int)", "int fromDay(int,int,int)",
        "int monthLength(int,int,int)", "int yearLength(int,int)", "int months(int,int)",
        "int addMonths(int,int,int)", "int addYears(int,int,int)", "int difference(int,int,int,int)",
        "int birthday(int,int,int)", "int row(int,int)", "int name(int,int,long)", "int monthNamed(int,long)",
        "int spellings(long)", "int feast(int,int,int,int,int)", "int feastDay(int,int)", "int moved(int,int)",
        "int movable(int,int)", "int feastOn(int,int)", "int age(int)", "int newMoon(int)", "double estimate(int)",
        "int light(int)", "int parish(int,boolean)", "int rule(int,int,int,int)", "int isOff(int,int)",
        "int worked(int,int,int)", "int nextOff(int,int)", "int inRow(int,int)", "int page(int,int,int,int)",
        "int sign(int,int)", "int book(int,int)", "int load(int,int)", "int byteAt(int)", "int spoil(int,int)",
        "int wipe()", "int verify()", "int undo()", "int count(int)"};
    private static final int[] EDGES = {Integer.MIN_VALUE, -1500001, -1, 0, 1, 7, 60, 2000, 1500000, 1500001,
        Integer.MAX_VALUE};

    public static void main(String[] args) throws ReflectiveOperationException {
        constants();
        members();
        neverThrows(false);
        neverThrows(true);
        Check.done();
    }

    private static void constants() {
        Check.same("BAD", AlmanacHouse.BAD, -1);
        Check.same("NONE", AlmanacHouse.NONE, -2);
        Check.same("OUTSIDE", AlmanacHouse.OUTSIDE, -3);
        Check.same("FULL", AlmanacHouse.FULL, -4);
    }

    private static void members() {
        Set<String> open = new TreeSet<>();
        Set<String> closed = new TreeSet<>();
        for (Method m : AlmanacHouse.class.getDeclaredMethods()) {
            if (Modifier.isPrivate(m.getModifiers())) {
                closed.add(m.getName());
            } else {
                open.add(Modifier.isPublic(m.getModifiers()) ? text(m) : "not public: " + m);
            }
        }
        Check.sameText("methods", open.toString(), new TreeSet<>(Arrays.asList(FACE)).toString());
        for (String call : FACE) {
            String name = call.substring(call.indexOf(' ') + 1, call.indexOf('('));
            Check.same("no private " + name, closed.contains(name) ? 1 : 0, 0);
        }
        int openFields = 0;
        for (Field f : AlmanacHouse.class.getDeclaredFields()) {
            openFields += Modifier.isPrivate(f.getModifiers()) ? 0 : 1;
        }
        Check.same("the four constants alone", openFields, 4);
        Constructor<?>[] makers = AlmanacHouse.class.getDeclaredConstructors();
        Check.same("one constructor", makers.length, 1);
        Check.same("it is public", makers[0].getModifiers(), Modifier.PUBLIC);
        Check.same("a public final class", AlmanacHouse.class.getModifiers(), Modifier.PUBLIC | Modifier.FINAL);
    }

    private static String text(Method m) {
        StringBuilder text = new StringBuilder(m.getReturnType() + " " + m.getName() + "(");
        for (Class<?> type : m.getParameterTypes()) {
            text.append(text.charAt(text.length() - 1) == '(' ? "" : ",").append(type);
        }
        return text.append(")").toString();
    }

    /** Every call with every choice of far-off arguments, on an empty house and on one with all. */
    private static void neverThrows(boolean furnished) throws ReflectiveOperationException {
        for (Method m : AlmanacHouse.class.getDeclaredMethods()) {
            if (!Modifier.isPublic(m.getModifiers())) {
                continue;
            }
            int many = m.getParameterCount();
            int choices = (int) Math.min(20000, Math.pow(EDGES.length, many));
            AlmanacHouse house = null;
            for (int i = 0; i < choices; i++) {
                if (i % 400 == 0) {
                    house = new AlmanacHouse();
                    if (furnished) {
                        furnish(house);
                    }
                }
                m.invoke(house, arguments(m, i));
            }
            Check.same(m.getName() + " did not throw", 0, 0);
        }
    }

    private static Object[] arguments(Method m, int choice) {
        Object[] arguments = new Object[m.getParameterCount()];
        int left = choice;
        for (int i = 0; i < arguments.length; i++) {
            int edge = EDGES[left % EDGES.length];
            left /= EDGES.length;
            Class<?> type = m.getParameterTypes()[i];
            if (type == long.class) {
                arguments[i] = (long) edge;
            } else if (type == boolean.class) {
                arguments[i] = edge > 0;
            } else {
                arguments[i] = edge;
            }
        }
        return arguments;
    }

    private static void furnish(AlmanacHouse h) {
        for (int i = 0; i < 12; i++) {
            h.row(30 * i, 30);
            h.feast(0, i + 1, 1, i % 7, i % 10);
            h.feast(3, i, 40, 0, 9);
        }
        h.name(7, 1, 7L);
        h.parish(96, true);
        h.parish(1, true);
        h.rule(0, 1, 10, 10);
        h.rule(1, 20, 10, 10);
        h.book(0, 2000);
    }
}
