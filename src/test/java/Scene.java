import java.util.ArrayList;
import java.util.Arrays;
import java.util.List;
import java.util.function.Consumer;
import java.util.function.ObjIntConsumer;
import java.util.function.ToIntFunction;
import java.util.function.ToLongFunction;

/**
 * A house as it stands behind some calls, which can be made again as often as it takes: so all that can
 * be asked of it is asked within the 512 calls for which the document promises anything.
 */
final class Scene {
    private static final int CALLS = 512;
    private static final long[] WORDS = wordsAsked();
    private static final int[] YEARS = {0, 1999, 2000, 4106, 4107};
    private static final List<Question> QUESTIONS = questions();

    private record Question(String text, ToLongFunction<AlmanacHouse> asked) {
    }

    private final String name;
    private final List<Consumer<AlmanacHouse>> steps = new ArrayList<>();
    private long[] answers;

    Scene(String name) {
        this.name = name;
    }

    Scene then(Consumer<AlmanacHouse> step) {
        steps.add(step);
        return this;
    }

    Scene times(int many, ObjIntConsumer<AlmanacHouse> step) {
        for (int i = 0; i < many; i++) {
            int number = i;
            steps.add(h -> step.accept(h, number));
        }
        return this;
    }

    AlmanacHouse house() {
        AlmanacHouse h = new AlmanacHouse();
        for (Consumer<AlmanacHouse> step : steps) {
            step.accept(h);
        }
        return h;
    }

    /** A call is refused as due, and all that can be asked behind it is answered as without it. */
    void refuses(String what, ToIntFunction<AlmanacHouse> call, int due) {
        String label = name + ": " + what;
        Check.same(label, call.applyAsInt(house()), due);
        if (answers == null) {
            answers = allAnswers(h -> 0);
        }
        long[] behind = allAnswers(call);
        for (int i = 0; i < answers.length; i++) {
            if (behind[i] != answers[i]) {
                Check.same(label + ", behind it " + question(i), behind[i], answers[i]);
            }
        }
        Check.same(label + ": answers behind it", behind.length, answers.length);
    }

    private static String question(int i) {
        return i < QUESTIONS.size() ? QUESTIONS.get(i).text() : "undo() and counts, number " + (i - QUESTIONS.size());
    }

    private long[] allAnswers(ToIntFunction<AlmanacHouse> call) {
        int left = CALLS - 1 - steps.size();
        if (left < 8) {
            throw new IllegalStateException(name + " leaves no calls for questions");
        }
        int takingBack = left / 8;
        long[] all = new long[QUESTIONS.size() + 8 * takingBack];
        for (int from = 0; from < QUESTIONS.size(); from += left) {
            AlmanacHouse h = house();
            call.applyAsInt(h);
            for (int i = from; i < Math.min(from + left, QUESTIONS.size()); i++) {
                all[i] = QUESTIONS.get(i).asked().applyAsLong(h);
            }
        }
        AlmanacHouse h = house();
        call.applyAsInt(h);
        for (int i = 0; i < takingBack; i++) {
            int at = QUESTIONS.size() + 8 * i;
            all[at] = h.undo();
            for (int what = 0; what < 7; what++) {
                all[at + 1 + what] = h.count(what);
            }
        }
        return all;
    }

    private static long[] wordsAsked() {
        long[] words = new long[310];
        for (int i = 0; i < 306; i++) {
            words[i] = i - 2;
        }
        words[306] = Long.MIN_VALUE;
        words[307] = Long.MAX_VALUE;
        words[308] = 1L << 32;
        words[309] = 1L + (1L << 32);
        return words;
    }

    private static List<Question> questions() {
        List<Question> all = new ArrayList<>();
        for (int what = 0; what < 7; what++) {
            int part = what;
            all.add(new Question("count(" + part + ")", h -> h.count(part)));
        }
        all.add(new Question("verify()", h -> h.verify()));
        askPageAndTape(all);
        askRows(all);
        askWords(all);
        askFeasts(all);
        askParishes(all);
        return all;
    }

    private static void askPageAndTape(List<Question> all) {
        for (int i = 0; i < 28 * 40; i++) {
            int line = i / 40;
            int place = i % 40;
            all.add(new Question("sign(" + line + ", " + place + ")", h -> h.sign(line, place)));
        }
        for (int i = 0; i <= 1200; i++) {
            int place = i;
            all.add(new Question("byteAt(" + place + ")", h -> h.byteAt(place)));
        }
    }

    private static void askRows(List<Question> all) {
        for (int i = 0; i <= 51; i++) {
            int year = i;
            all.add(new Question("months(7, " + year + ")", h -> h.months(7, year)));
            all.add(new Question("yearLength(7, " + year + ")", h -> h.yearLength(7, year)));
            for (int m = 0; m <= 11; m++) {
                int month = m;
                all.add(new Question("toDay(7, " + year + ", " + month + ", 1)", h -> h.toDay(7, year, month, 1)));
            }
        }
    }

    private static void askWords(List<Question> all) {
        for (long word : WORDS) {
            all.add(new Question("spellings(" + word + ")", h -> h.spellings(word)));
            for (int c = 0; c < 8; c++) {
                int calendar = c;
                all.add(new Question("monthNamed(" + calendar + ", " + word + ")", h -> h.monthNamed(calendar, word)));
            }
        }
    }

    private static void askFeasts(List<Question> all) {
        for (int i = 0; i <= 60; i++) {
            int feast = i;
            for (int year : YEARS) {
                all.add(new Question("feastDay(" + feast + ", " + year + ")", h -> h.feastDay(feast, year)));
                all.add(new Question("moved(" + feast + ", " + year + ")", h -> h.moved(feast, year)));
            }
        }
    }

    private static void askParishes(List<Question> all) {
        int[] days = new int[60];
        Arrays.setAll(days, i -> i < 10 ? i : i < 20 ? 1500000 - (i - 10) : 730400 + i);
        for (int i = 0; i <= 8; i++) {
            int parish = i;
            for (int n : days) {
                all.add(new Question("isOff(" + parish + ", " + n + ")", h -> h.isOff(parish, n)));
            }
            all.add(new Question("worked(" + parish + ", 730100, 730899)", h -> h.worked(parish, 730100, 730899)));
        }
    }
}
