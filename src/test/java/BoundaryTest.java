import java.io.IOException;
import java.nio.file.Files;
import java.nio.file.Path;
import java.util.HashSet;
import java.util.Set;
import java.util.regex.Matcher;
import java.util.regex.Pattern;

/**
 * Holds the class to each sentence of the document at its boundaries (too small, too large, empty,
 * full, a wrap-around, a refused call), and sees to it that no sentence is without a case.
 */
public final class BoundaryTest {
    private static final Path DOCUMENT = Path.of("../shared/DOC.md");
    private static final Pattern PROMISE = Pattern.compile("## Promise (\\d+): .*");
    private static final Set<String> WITHOUT_CASE = Set.of(
            "An analyzer for active rules, which act by themselves when facts change.",
            "Rules trigger each other; it plays them step by step, explores all orders in which they can act, "
                    + "and tells whether they come to an end, and to the same end; and it judges from the rules "
                    + "alone whether that is sure.",
            "Facts and rules.", "Playing.", "Exploring.", "Judging.",
            "The constructor and the methods follow, a promise each: the signature, then what it does.");

    private static int wrong;

    private BoundaryTest() {
    }

    public static void main(String[] args) throws IOException {
        Cases cases = new Cases();
        RuleBoundaries.addTo(cases);
        PlayBoundaries.addTo(cases);
        ExploreBoundaries.addTo(cases);
        KeepBoundaries.addTo(cases);
        JudgeBoundaries.addTo(cases);
        RefusalBoundaries.addTo(cases);
        for (Cases.Case one : cases.list()) {
            test(one);
        }
        compareWithDocument(cases);
        System.out.println(wrong == 0 ? "all " + cases.list().size() + " cases hold" : wrong + " cases do not hold");
        System.exit(wrong == 0 ? 0 : 1);
    }

    private static void complain(String what) {
        wrong++;
        System.out.println(what);
    }

    private static void test(Cases.Case one) {
        try {
            one.body().test();
        } catch (AssertionError | RuntimeException e) {
            complain(one.title() + ": " + (e instanceof AssertionError ? e.getMessage() : "threw " + e)
                    + "\n    the document: " + one.sentence());
        }
    }

    /** A case that cites what the document does not say is as wrong as a sentence without a case. */
    private static void compareWithDocument(Cases cases) throws IOException {
        if (!Files.exists(DOCUMENT)) {
            System.out.println("there is no " + DOCUMENT + ": what the cases cite is not compared with it");
            return;
        }
        Set<String> cited = new HashSet<>();
        Set<String> titles = new HashSet<>();
        for (Cases.Case one : cases.list()) {
            cited.add(one.promise() + " " + one.sentence());
            if (!titles.add(one.title())) {
                complain("two cases bear the title " + one.title());
            }
        }
        Set<String> said = sentences();
        for (String sentence : said) {
            if (!cited.contains(sentence)) {
                complain("no case for the sentence of promise " + sentence);
            }
        }
        for (String sentence : cited) {
            if (!said.contains(sentence)) {
                complain("not a sentence of promise " + sentence);
            }
        }
    }

    /** The sentences of the description and the promises, each behind the number of its promise. */
    private static Set<String> sentences() throws IOException {
        Set<String> found = new HashSet<>();
        int promise = Cases.DESCRIPTION;
        boolean isTold = false;
        for (String line : Files.readAllLines(DOCUMENT)) {
            Matcher heading = PROMISE.matcher(line);
            if (heading.matches()) {
                promise = Integer.parseInt(heading.group(1));
                isTold = true;
            } else if (line.startsWith("#")) {
                isTold = line.equals("## What it is") || line.equals("## Description");
            } else if (isTold && !line.isBlank() && !line.matches("(`|----|- ).*")) {
                addSentences(found, promise, line.strip());
            }
        }
        return found;
    }

    private static void addSentences(Set<String> found, int promise, String line) {
        for (String sentence : line.split("(?<=\\.) +(?=[A-Z])")) {
            if (!WITHOUT_CASE.contains(sentence)) {
                found.add(promise + " " + sentence);
            }
        }
    }
}
