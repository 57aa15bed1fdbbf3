import java.io.IOException;
import java.nio.charset.StandardCharsets;
import java.nio.file.Files;
import java.nio.file.Path;
import java.util.LinkedHashMap;
import java.util.Map;
import java.util.Set;
import java.util.TreeSet;

/**
 * The sentences of the document, each with a test of its own. A sentence is quoted word by word, so
 * that a test can be found by it, and a sentence that has none is told.
 */
final class Sentences {
    /** The number of the section "Terms"; a promise has its own number. */
    static final int TERMS = 0;
    /** The number of the section "Not promised". */
    static final int NOT_PROMISED = 99;

    /** A line of the terms that is a heading without the signs of one. */
    private static final String HEADING = "Snapshots, undo";

    private static final Map<String, Integer> TESTED = new LinkedHashMap<>();

    private Sentences() {
    }

    static void test(int section, String sentence, Check.Call test) {
        String name = name(section, sentence);
        Check.about(name + ": ");
        TESTED.merge(name, 1, Integer::sum);
        int before = Check.made();
        try {
            test.run();
        } catch (RuntimeException thrown) {
            Check.isTrue("the test itself met " + thrown, false);
        }
        Check.isTrue("something is tried", Check.made() > before);
        Check.about("");
    }

    /** Each sentence of the document has just one test, and each test a sentence of the document. */
    static void compareWith(Path document) throws IOException {
        Set<String> told = told(Files.readString(document, StandardCharsets.UTF_8));
        for (String sentence : told) {
            Check.equal("tests of " + sentence, 1, TESTED.getOrDefault(sentence, 0));
        }
        for (String sentence : TESTED.keySet()) {
            Check.isTrue("not in the document: " + sentence, told.contains(sentence));
        }
    }

    private static Set<String> told(String document) {
        Set<String> told = new TreeSet<>();
        int section = -1;
        for (String line : document.split("\n")) {
            if (line.startsWith("## ")) {
                section = sectionOf(line);
            } else if (section >= 0 && !line.isEmpty() && !line.startsWith("#") && !line.equals(HEADING)) {
                for (String sentence : bare(line).split("\\. ")) {
                    told.add(name(section, sentence.replaceAll("\\.$", "")));
                }
            }
        }
        // These tell what is free, and nothing that a test could ask for.
        told.removeIf(name -> name.contains(" is free, ") || name.contains("several threads"));
        return told;
    }

    private static int sectionOf(String heading) {
        if (heading.equals("## Terms")) {
            return TERMS;
        }
        if (heading.equals("## Not promised")) {
            return NOT_PROMISED;
        }
        String number = heading.replaceAll("^## Promise (\\d+):.*", "$1");
        return number.equals(heading) ? -1 : Integer.parseInt(number);
    }

    /** A line without the sign of a list and without the head of a method. */
    private static String bare(String line) {
        String text = line.startsWith("- ") ? line.substring(2) : line;
        return text.matches("`[^`]*\\)[^`]*`: .*") ? text.substring(text.indexOf("`: ") + 3) : text;
    }

    private static String name(int section, String sentence) {
        String where = section == TERMS ? "Terms" : section == NOT_PROMISED ? "Not promised" : "Promise " + section;
        return where + ", \"" + sentence + "\"";
    }
}
