import java.io.IOException;
import java.nio.file.Files;
import java.nio.file.Path;
import java.util.Arrays;
import java.util.LinkedHashMap;
import java.util.LinkedHashSet;
import java.util.Map;
import java.util.Set;

/** The sentences that tests have quoted, and those of the document. */
final class Quotes {
    private static final Path DOCUMENT = Path.of("../shared/DOC.md");

    private final Map<String, Set<String>> quoted = new LinkedHashMap<>();

    void add(String section, String sentence) {
        quoted.computeIfAbsent(section, key -> new LinkedHashSet<>()).add(sentence);
    }

    /** Finds sentences of the document without a test and quotes that do not stand there. */
    void compareWithDocument(Checks checks, Set<String> withoutBoundary) throws IOException {
        Map<String, Set<String>> due = sentencesOfDocument();
        checks.begin("41 promises in the document");
        checks.isDue("the number", 41L, due.keySet().stream().filter(section -> section.startsWith("Promise")).count());
        due.forEach((section, sentences) -> sentences.forEach(sentence -> {
            checks.begin(section + ", \"" + sentence + "\", has a test");
            boolean isTested = quoted.getOrDefault(section, Set.of()).contains(sentence);
            checks.isDue("whether it has one", true, isTested || withoutBoundary.contains(sentence));
        }));
        quoted.forEach((section, sentences) -> sentences.forEach(sentence -> {
            checks.begin(section + ", \"" + sentence + "\", stands in the document");
            checks.isDue("whether it does", true, due.getOrDefault(section, Set.of()).contains(sentence));
        }));
    }

    private static Map<String, Set<String>> sentencesOfDocument() throws IOException {
        Map<String, Set<String>> sentences = new LinkedHashMap<>();
        for (String part : Files.readString(DOCUMENT).split("(?m)^## ")) {
            String heading = part.lines().findFirst().orElse("");
            String body = part.substring(heading.length()).replaceAll("(?s)```.*?```", "");
            if (heading.equals("What it is") || heading.equals("Description")) {
                addParagraphs(heading, body, sentences);
            } else if (heading.startsWith("Promise")) {
                addSentences(heading.split(":")[0], body, sentences);
            }
        }
        return sentences;
    }

    /** Each paragraph of the description begins with a title. */
    private static void addParagraphs(String heading, String body, Map<String, Set<String>> sentences) {
        for (String paragraph : body.strip().split("\n\\s*\n")) {
            String title = paragraph.split("\\.")[0];
            boolean isTitled = heading.equals("Description") && title.split(" ").length <= 2;
            addSentences(isTitled ? heading + ", " + title : heading, paragraph, sentences);
        }
    }

    private static void addSentences(String section, String body, Map<String, Set<String>> sentences) {
        Set<String> of = sentences.computeIfAbsent(section, key -> new LinkedHashSet<>());
        for (String block : body.split("\n\\s*\n|\n(?=- )")) {
            String line = String.join(" ", block.strip().split("\\s+")).replaceFirst("^- ", "");
            Arrays.stream(line.split("(?<=\\.) (?=[A-Z])")).filter(Quotes::isSentence).forEach(of::add);
        }
    }

    /** Titles of groups and the signatures are none. */
    private static boolean isSentence(String text) {
        boolean isTitle = text.matches("[A-Z]\\w+( \\w+)?\\.|Stems and grids\\.|Accounts, texts and changes\\.");
        boolean isSignature = text.matches("`[^`]*`");
        return !text.isEmpty() && !isTitle && !isSignature;
    }
}
