import java.lang.reflect.Method;
import java.nio.file.Files;
import java.nio.file.Path;
import java.util.LinkedHashMap;
import java.util.List;
import java.util.Map;
import java.util.regex.Matcher;
import java.util.regex.Pattern;

/**
 * Holds the Boundary tests against the document: what a test says that it is for stands there, once,
 * and no words that name a boundary are left without a test. Argument: the project's folder.
 */
public final class SentencesTest {
    static final List<Class<?>> TESTS = List.of(BoundaryYardTest.class, BoundaryTermsTest.class,
        BoundaryShelvesTest.class, BoundaryMakingTest.class, BoundaryTeamsTest.class, BoundaryFindingTest.class,
        BoundaryTruthTest.class);
    private static final int PROMISES = 59;

    /** Refusals, NONE, limits, the first or least of several, nobody, the same, wrap-arounds. */
    private static final Pattern EDGE = Pattern.compile("\\b(BAD|OTHER|NOTHING|STUCK|FULL|NONE|modulo|wrapping|empty"
        + "|nobody|none|nothing|never|at most|at least|at first|\\d+ to \\d+|0 on|of several|one or more|more than"
        + "|no sign|[Tt]he same|too early|no room|itself too|either way|isn't|can't|lowest|least|greatest|lesser|each"
        + "|also|else)\\b");

    private static int wrong = 0;

    public static void main(String[] args) throws Exception {
        Path here = Path.of(args.length > 0 ? args[0] : ".");
        Map<String, String> sections = sectionsOf(Files.readString(here.resolve("../shared/DOC.md")));
        Map<String, boolean[]> covered = new LinkedHashMap<>();
        sections.forEach((name, text) -> covered.put(name, new boolean[text.length()]));
        int sentences = 0;
        for (Class<?> tests : TESTS) {
            for (Method test : Boundary.sentencesOf(tests)) {
                cover(test, sections, covered);
                sentences++;
            }
        }
        nothingIsLeft(sections, covered);
        System.out.println(sentences + " sentences, " + wrong + " troubles");
        if (wrong != 0) {
            System.exit(1);
        }
    }

    private static void tell(String what) {
        wrong++;
        System.out.println(what);
    }

    /** The document's parts by their headings, without its signatures and with single blanks. */
    private static Map<String, String> sectionsOf(String document) {
        Map<String, String> sections = new LinkedHashMap<>();
        for (String part : document.split("(?m)^## ")) {
            int end = part.indexOf('\n');
            String name = part.substring(0, end).replaceAll(":.*", "").trim();
            sections.put(name, part.substring(end).replaceAll("(?m)^`[^`]*`:", "").replaceAll("\\s+", " "));
        }
        return sections;
    }

    private static void cover(Method test, Map<String, String> sections, Map<String, boolean[]> covered) {
        Sentence sentence = test.getAnnotation(Sentence.class);
        String text = sections.getOrDefault(sentence.of(), "");
        int from = text.indexOf(sentence.says());
        if (from < 0 || text.indexOf(sentence.says(), from + 1) >= 0) {
            tell(test.getName() + ": not once in " + sentence.of() + ": \"" + sentence.says() + "\"");
            return;
        }
        for (int i = from; i < from + sentence.says().length(); i++) {
            covered.get(sentence.of())[i] = true;
        }
    }

    private static void nothingIsLeft(Map<String, String> sections, Map<String, boolean[]> covered) {
        for (int promise = 1; promise <= PROMISES; promise++) {
            if (!sections.containsKey("Promise " + promise)) {
                tell("the document has no Promise " + promise);
            }
        }
        for (Map.Entry<String, String> section : sections.entrySet()) {
            if (!section.getKey().matches("Terms|Promise \\d+")) {
                continue;
            }
            Matcher edge = EDGE.matcher(section.getValue());
            while (edge.find()) {
                if (!covered.get(section.getKey())[edge.start()]) {
                    tell(section.getKey() + ": no test for \"" + edge.group() + "\" in \""
                        + around(section.getValue(), edge.start(), edge.end()) + "\"");
                }
            }
            noPromiseIsLeft(section.getKey(), covered.get(section.getKey()));
        }
    }

    private static String around(String text, int start, int end) {
        return text.substring(Math.max(0, start - 30), Math.min(text.length(), end + 30));
    }

    private static void noPromiseIsLeft(String name, boolean[] covered) {
        for (boolean c : covered) {
            if (c) {
                return;
            }
        }
        tell(name + " has no test");
    }
}
