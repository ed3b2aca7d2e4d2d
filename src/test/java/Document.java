import java.io.IOException;
import java.nio.file.Files;
import java.nio.file.Path;
import java.util.ArrayList;
import java.util.List;
import java.util.Map;
import java.util.TreeMap;
import java.util.TreeSet;

/**
 * The sentences of ../shared/DOC.md and the lines of its face, so that a test can quote the one that it tries:
 * what is quoted must stand there word by word, and in the end each sentence must have been quoted. Where the
 * document itself is not to be found, this alone is left out.
 */
final class Document {
    private static final Path FILE = Path.of("../shared/DOC.md");

    /** The numbers under which sections are kept that are no promises; the promises have their own numbers. */
    static final int TERMS = 0;

    static final int WHAT_IT_IS = 101;
    static final int FACE = 102;
    static final int NOT_PROMISED = 103;

    /** What stands under any other heading is kept, too, so that it is missed in the end. */
    private static final int OTHER = 104;

    /** "Inputs and clocks." is the longest of the words that stand ahead of a paragraph as its title. */
    private static final int MOST_WORDS_OF_TITLE = 3;

    private final Map<Integer, List<String>> sentences = new TreeMap<>();
    private final Map<Integer, TreeSet<String>> quoted = new TreeMap<>();
    private final boolean isThere = Files.exists(FILE);

    Document() throws IOException {
        if (!isThere) {
            System.out.println(FILE + " is not there: quotations are not compared");
            return;
        }
        int section = OTHER;
        StringBuilder paragraph = new StringBuilder();
        for (String line : Files.readAllLines(FILE)) {
            boolean isHeading = line.startsWith("#");
            boolean isOfItsOwn = isHeading || section == FACE || line.isBlank() || line.startsWith("- ");
            if (isOfItsOwn) {
                keep(section, paragraph.toString().trim());
                paragraph.setLength(0);
            }
            section = isHeading ? sectionOf(line) : section;
            paragraph.append(isHeading || line.startsWith("```") ? "" : line.trim() + " ");
        }
        keep(section, paragraph.toString().trim());
    }

    private static int sectionOf(String heading) {
        switch (heading) {
            case "## What it is":
                return WHAT_IT_IS;
            case "## The public face":
                return FACE;
            case "## Terms":
                return TERMS;
            case "## Not promised":
                return NOT_PROMISED;
            default:
                String promise = "## Promise (\\d+): .*";
                return heading.matches(promise) ? Integer.parseInt(heading.replaceAll(promise, "$1")) : OTHER;
        }
    }

    /** A promise's first paragraph begins with its signature, which is kept by itself. */
    private void keep(int section, String paragraph) {
        if (paragraph.isEmpty()) {
            return;
        }
        List<String> kept = sentences.computeIfAbsent(section, none -> new ArrayList<>());
        if (section == FACE) {
            kept.add(paragraph);
        } else if (paragraph.startsWith("Ahead of the calls")) {
            sentences.computeIfAbsent(FACE, none -> new ArrayList<>()).add(paragraph);
        } else if (section < WHAT_IT_IS && section != TERMS) {
            kept.addAll(List.of(paragraph.replaceFirst("^- ", "").replaceFirst("^(`[^`]*\\([^`]*`): ", "$1\n").split("\n")));
        } else {
            keepSentences(kept, paragraph);
        }
    }

    private static void keepSentences(List<String> kept, String paragraph) {
        for (String sentence : paragraph.split("(?<=\\.)\\s+")) {
            if (sentence.split(" ").length > MOST_WORDS_OF_TITLE) {
                kept.add(sentence);
            }
        }
    }

    void quote(int section, String sentence) {
        if (!isThere) {
            return;
        }
        boolean stands = sentences.getOrDefault(section, List.of()).contains(sentence);
        Check.due("section " + section + " says: " + sentence, stands, true);
        quoted.computeIfAbsent(section, none -> new TreeSet<>()).add(sentence);
    }

    void dueAllQuoted() {
        int count = 0;
        for (Map.Entry<Integer, List<String>> section : sentences.entrySet()) {
            for (String sentence : section.getValue()) {
                boolean isQuoted = quoted.getOrDefault(section.getKey(), new TreeSet<>()).contains(sentence);
                Check.due("section " + section.getKey() + " is tried where it says: " + sentence, isQuoted, true);
                count++;
            }
        }
        Check.due("there are sentences", count > 0, isThere);
    }
}
