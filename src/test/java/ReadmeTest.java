import java.io.IOException;
import java.lang.reflect.Method;
import java.lang.reflect.Modifier;
import java.nio.file.Files;
import java.nio.file.Path;
import java.util.List;

/** README.md: its example is run here, its answers are those of the house, and it names every call. */
public final class ReadmeTest {
    public static void main(String[] args) throws IOException {
        String readme = Files.readString(Path.of("README.md"));
        List<String> example = block(readme, "```java\n");
        sameLines(example);
        AlmanacHouse house = new AlmanacHouse();
        sameAnswers(example, answers(house));
        samePage(block(readme, "```text\n"), house);
        namesEveryCall(readme);
        Check.done();
    }

    private static List<String> block(String readme, String opening) {
        int begin = readme.indexOf(opening) + opening.length();
        return readme.substring(begin, readme.indexOf("```", begin)).lines().toList();
    }

    /** The example as it stands in README.md; its answers in their order. */
    private static int[] answers(AlmanacHouse house) {
        int newYear = house.toDay(0, 2027, 1, 1);
        int counted = house.fromDay(4, newYear, 1);
        int monthOn = house.addMonths(0, newYear + 30, 1);
        int easter = house.feast(2, 0, 0, 0, 9);
        int parish = house.parish(96, true);
        int rules = house.rule(parish, easter, 2, 1);
        int sunday = house.feastDay(easter, 2027);
        int row = house.inRow(parish, sunday);
        int lines = house.page(parish, 0, 2027, 3);
        int bytes = house.book(parish, 2027);
        int books = house.verify();
        int left = house.undo();
        return new int[] {newYear, counted, monthOn, easter, parish, rules, sunday, row, lines, bytes, books, left};
    }

    private static void sameLines(List<String> example) throws IOException {
        String source = Files.readString(Path.of("src/test/java/ReadmeTest.java"));
        for (String line : example) {
            String code = line.contains("//") ? line.substring(0, line.indexOf("//")).strip() : line.strip();
            Check.same("is run here: " + code, source.contains("        " + code + "\n") ? 1 : 0, 1);
        }
    }

    private static void sameAnswers(List<String> example, int[] answers) {
        List<String> told = example.stream().filter(line -> line.contains("// ")).toList();
        Check.same("answers told", told.size(), answers.length);
        for (int i = 0; i < Math.min(told.size(), answers.length); i++) {
            String answer = told.get(i).substring(told.get(i).indexOf("// ") + 3);
            Check.sameText(told.get(i), answer.substring(0, answer.indexOf(':')), String.valueOf(answers[i]));
        }
    }

    private static void samePage(List<String> page, AlmanacHouse house) {
        for (int line = 0; line < 28; line++) {
            StringBuilder signs = new StringBuilder();
            for (int i = 0; i < 40; i++) {
                signs.append((char) house.sign(line, i));
            }
            String due = line < page.size() ? page.get(line) : "";
            Check.sameText("line " + line + " of the page", signs.toString().stripTrailing(), due);
        }
    }

    private static void namesEveryCall(String readme) {
        for (Method m : AlmanacHouse.class.getDeclaredMethods()) {
            if (Modifier.isPublic(m.getModifiers())) {
                Check.same("README.md names " + m.getName(), readme.contains("`" + m.getName() + "`") ? 1 : 0, 1);
            }
        }
    }
}
