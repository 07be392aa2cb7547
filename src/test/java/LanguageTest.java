import java.io.IOException;
import java.lang.reflect.Array;
import java.lang.reflect.Field;
import java.lang.reflect.Method;
import java.lang.reflect.Modifier;
import java.nio.file.Files;
import java.nio.file.Path;
import java.util.ArrayList;
import java.util.Collections;
import java.util.IdentityHashMap;
import java.util.List;
import java.util.Set;
import java.util.regex.Matcher;
import java.util.regex.Pattern;

/** LANGUAGE.md: what of its rules can be seen from the source's text and from the compiled classes. */
public final class LanguageTest {
    private static final Set<Class<?>> CONSTANTS = Set.of(int.class, long.class, boolean.class, char.class,
        String.class, int[].class, long[].class, char[].class, byte[].class);
    private static final Set<Class<?>> PLAIN = Set.of(int.class, long.class, boolean.class, int[].class,
        long[].class, boolean[].class);
    /** Words that rules 2, 6, 9, 12 and 13 keep out, or that the class has no need of. */
    private static final String[] KEPT_OUT = {"->", "::", "\\bthrow\\b", "\\btry\\b", "\\bcatch\\b", "\\bfinally\\b",
        "\\bsynchronized\\b", "\\bassert\\b", "\\binstanceof\\b", "\\bwhile \\(true", "for \\(;;", "Exact\\(",
        "\\bSystem\\b", "\\bThread\\b", "\\bObject\\b", "\\bpackage\\b", "\\bprotected\\b", "\\bnull\\b", "\\bfloat\\b"};

    public static void main(String[] args) throws IOException, ReflectiveOperationException {
        String code = withoutComments(Files.readString(Path.of("src/main/java/AlmanacHouse.java")));
        words(code);
        library(code);
        objectsMade(code);
        methodLengths(code);
        List<Class<?>> classes = new ArrayList<>(List.of(AlmanacHouse.class.getDeclaredClasses()));
        for (Class<?> c : classes) {
            Check.same(c.getName() + " is static", c.getModifiers() & Modifier.STATIC, Modifier.STATIC);
            Check.same(c.getName() + " is not public", c.getModifiers() & Modifier.PUBLIC, 0);
            Check.same(c.getName() + " has no class inside", c.getDeclaredClasses().length, 0);
        }
        classes.add(AlmanacHouse.class);
        atMost("classes", classes.size(), 12);
        for (Class<?> c : classes) {
            fields(c, classes);
            for (Method m : c.getDeclaredMethods()) {
                atMost("parameters of " + m, m.getParameterCount(), 7);
            }
        }
        room();
        Check.done();
    }

    private static void atMost(String what, int many, int most) {
        Check.same(what + ": " + many + ", at most " + most, many <= most ? 1 : 0, 1);
    }

    private static String withoutComments(String source) {
        return source.replaceAll("(?s)/\\*.*?\\*/", "").replaceAll("//[^\n]*", "");
    }

    private static void words(String code) {
        for (String word : KEPT_OUT) {
            Check.same("no " + word, Pattern.compile(word).matcher(code).find() ? 1 : 0, 0);
        }
        Matcher imports = Pattern.compile("import ([^;]*);").matcher(code);
        while (imports.find()) {
            Check.sameText("import", imports.group(1), "java.util.Arrays");
        }
    }

    /** Rule 4: of the library's classes only these functions. */
    private static void library(String code) {
        Matcher calls = Pattern.compile("\\b(Math|Arrays|Integer|Long|Double|String)\\.(\\w+)").matcher(code);
        Set<String> fine = Set.of("Math.max", "Math.min", "Math.floorMod", "Arrays.fill");
        while (calls.find()) {
            String call = calls.group(1) + "." + calls.group(2);
            Check.sameText("of the library", fine.contains(call) ? "" : call, "");
        }
    }

    /** Rule 12, kept narrower: all is made where a house is made, nothing by a call. */
    private static void objectsMade(String code) {
        Pattern field = Pattern.compile("private final (int|long|boolean)\\[\\] \\w+ = new (int|long|boolean)\\[.*\\];");
        Pattern part = Pattern.compile("(\\w+) = new [A-Z]\\w+\\(.*\\);");
        int begin = code.indexOf("public AlmanacHouse() {");
        int end = code.indexOf("    }", begin);
        for (String line : code.substring(begin, end).lines().skip(1).toList()) {
            Check.same("a part: " + line, part.matcher(line.strip()).matches() ? 1 : 0, 1);
        }
        for (String line : (code.substring(0, begin) + code.substring(end)).lines().toList()) {
            if (line.contains("new ")) {
                Check.same("a field: " + line, field.matcher(line.strip()).matches() ? 1 : 0, 1);
            }
        }
    }

    /** Rule 11; a method ends at the first brace that stands as far in as its own line. */
    private static void methodLengths(String code) {
        List<String> lines = code.lines().toList();
        Pattern head = Pattern.compile("( {4}| {8})\\w[^=;]*\\) \\{");
        int methods = 0;
        for (int i = 0; i < lines.size(); i++) {
            Matcher m = head.matcher(lines.get(i));
            if (m.matches()) {
                int end = i + 1;
                while (end < lines.size() && !lines.get(end).equals(m.group(1) + "}")) {
                    end++;
                }
                atMost("lines of" + lines.get(i), end - i + 1, 60);
                methods++;
            }
        }
        Check.same("methods are found", methods >= 38 ? 1 : 0, 1);
    }

    /** Rules 3, 5 and 11. */
    private static void fields(Class<?> c, List<Class<?>> own) {
        int changing = 0;
        for (Field f : c.getDeclaredFields()) {
            int signs = f.getModifiers();
            if (Modifier.isStatic(signs)) {
                Check.same(f + " is final", signs & Modifier.FINAL, Modifier.FINAL);
                Check.same(f + " is of a constant's type", CONSTANTS.contains(f.getType()) ? 1 : 0, 1);
            } else {
                changing++;
                Check.same(f + " is plain or own", PLAIN.contains(f.getType()) || own.contains(f.getType()) ? 1 : 0, 1);
            }
        }
        atMost("fields of " + c.getName(), changing, 20);
    }

    /** A room holds 600,000 objects and 7.3 million elements; a house keeps far below that. */
    private static void room() throws ReflectiveOperationException {
        Set<Object> seen = Collections.newSetFromMap(new IdentityHashMap<>());
        int elements = elements(new AlmanacHouse(), seen);
        atMost("objects of a house", seen.size(), 100);
        atMost("fields and elements of a house", elements, 10000);
    }

    private static int elements(Object o, Set<Object> seen) throws ReflectiveOperationException {
        if (!seen.add(o)) {
            return 0;
        }
        if (o.getClass().isArray()) {
            return Array.getLength(o);
        }
        int elements = 0;
        for (Field f : o.getClass().getDeclaredFields()) {
            if (!Modifier.isStatic(f.getModifiers())) {
                elements++;
                f.setAccessible(true);
                elements += f.getType().isPrimitive() ? 0 : elements(f.get(o), seen);
            }
        }
        return elements;
    }
}
