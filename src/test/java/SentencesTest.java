import java.io.IOException;
import java.lang.reflect.Method;
import java.nio.file.Files;
import java.nio.file.Path;
import java.util.ArrayList;
import java.util.List;
import java.util.Map;
import java.util.TreeMap;
import java.util.regex.Matcher;
import java.util.regex.Pattern;

/**
 * That each test is of a promise whose words (or the terms') it quotes, and that no words of the terms and promises in
 * ../shared/DOC.md are left that no test quotes.
 */
public final class SentencesTest {
    private static final Class<?>[] TESTS = {CarsTest.class, WorthTest.class, TextsTest.class, BooksTest.class, RingsTest.class,
        VoicesTest.class, SheetsTest.class, ToldTest.class};
    private static final Path DOC = Path.of("../shared/DOC.md");
    private static final int PROMISES = 41;
    private static final Pattern NAME = Pattern.compile("promise(\\d+)[A-Z].*");

    /** A part of the document, and which of its letters a test quotes. */
    private static final class Part {
        private final String text;
        private final boolean[] quoted;

        Part(String raw) {
            text = raw.replaceAll("(?m)^\\d+\\. ", "").replaceAll("```(text)?", " ").replaceAll("\\s+", " ").trim();
            quoted = new boolean[text.length()];
        }

        boolean quote(String words) {
            boolean found = false;
            for (int at = text.indexOf(words); at >= 0; at = text.indexOf(words, at + 1)) {
                java.util.Arrays.fill(quoted, at, at + words.length(), true);
                found = true;
            }
            return found;
        }

        /** Stretches with letters or digits that no test quotes. */
        List<String> left() {
            List<String> all = new ArrayList<>();
            for (int from = 0; from < text.length(); from++) {
                int to = from;
                while (to < text.length() && !quoted[to]) {
                    to++;
                }
                if (text.substring(from, to).matches(".*[A-Za-z0-9].*")) {
                    all.add(text.substring(from, to));
                }
                from = to;
            }
            return all;
        }
    }

    private final List<String> faults = new ArrayList<>();
    private final Map<Integer, Part> promises = new TreeMap<>();
    private final int[] tests = new int[PROMISES + 1];
    private Part terms = new Part("");

    private void read(String doc) {
        for (String section : doc.split("(?m)^## ")) {
            Matcher head = Pattern.compile("Promise (\\d+): .*\\R+`[^`]*`: ((?s).*)").matcher(section);
            if (head.matches()) {
                promises.put(Integer.parseInt(head.group(1)), new Part(head.group(2)));
            } else if (section.startsWith("Terms")) {
                terms = new Part(section.substring("Terms".length()).replaceAll("(?m)^Ahead of the calls .*$", ""));
            }
        }
    }

    private void look(Method test) {
        Matcher name = NAME.matcher(test.getName());
        Says says = test.getAnnotation(Says.class);
        if (!name.matches() || says == null) {
            faults.add(test.getName() + " names no promise, or quotes nothing");
            return;
        }
        int number = Integer.parseInt(name.group(1));
        Part promise = promises.get(number);
        if (promise == null) {
            faults.add(test.getName() + " is of no promise of the document");
            return;
        }
        tests[number]++;
        for (String words : says.value()) {
            boolean there = promise.quote(words);
            if (!(terms.quote(words) || there)) {
                faults.add(test.getName() + ": the document doesn't say '" + words + "'");
            }
        }
    }

    private void tellWhatIsLeft() {
        for (String words : terms.left()) {
            faults.add("terms: no test quotes '" + words + "'");
        }
        for (Map.Entry<Integer, Part> promise : promises.entrySet()) {
            for (String words : promise.getValue().left()) {
                faults.add("promise " + promise.getKey() + ": no test quotes '" + words + "'");
            }
        }
        for (int number = 1; number <= PROMISES; number++) {
            if (tests[number] == 0) {
                faults.add("no test of promise " + number);
            }
        }
    }

    public static void main(String[] args) throws IOException {
        if (!Files.isReadable(DOC)) {
            System.out.println("SentencesTest: there is no " + DOC + " to look at");
            return;
        }
        SentencesTest all = new SentencesTest();
        all.read(Files.readString(DOC));
        int n = 0;
        for (Class<?> tests : TESTS) {
            for (Method m : tests.getDeclaredMethods()) {
                if (m.getName().startsWith("promise")) {
                    all.look(m);
                    n++;
                }
            }
        }
        all.tellWhatIsLeft();
        all.faults.forEach(System.out::println);
        System.out.println("SentencesTest: " + n + " tests, " + all.faults.size() + " faults");
        if (!all.faults.isEmpty()) {
            System.exit(1);
        }
    }
}
