import java.io.IOException;
import java.nio.file.Files;
import java.nio.file.Path;
import java.util.ArrayList;
import java.util.List;
import java.util.Map;
import java.util.TreeMap;
import java.util.TreeSet;

/**
 * The sentences of ../shared/DOC.md, so that a test can quote the one that it tries: what is quoted must
 * stand there word by word, and in the end each sentence must have been quoted. Where the document itself
 * is not to be found, this alone is left out.
 */
final class Document {
    private static final Path FILE = Path.of("../shared/DOC.md");

    /** The number under which the section "Terms" is kept; the promises have their own numbers. */
    static final int TERMS = 0;

    private static final int NO_SECTION = -1;

    /** "Inputs and clocks." is the longest of the words that stand ahead of a paragraph as its title. */
    private static final int MOST_WORDS_OF_TITLE = 3;

    private final Map<Integer, List<String>> sentences = new TreeMap<>();
    private final Map<Integer, TreeSet<String>> quoted = new TreeMap<>();
    private final boolean isThere = Files.exists(FILE);

    Document() throws IOException {
        if (!isThere) {
            System.out.println(FILE + " is not there: quotations are not compared");
            return;
        }
        int section = NO_SECTION;
        StringBuilder paragraph = new StringBuilder();
        for (String line : Files.readAllLines(FILE)) {
            boolean isHeading = line.startsWith("#");
            if (isHeading || line.isBlank() || line.startsWith("- ")) {
                keep(section, paragraph.toString().trim());
                paragraph.setLength(0);
            }
            section = isHeading ? sectionOf(line) : section;
            paragraph.append(isHeading ? "" : line.trim() + " ");
        }
        keep(section, paragraph.toString().trim());
    }

    private static int sectionOf(String heading) {
        if (heading.equals("## Terms")) {
            return TERMS;
        }
        return heading.matches("## Promise \\d+:.*") ? Integer.parseInt(heading.replaceAll("\\D+(\\d+).*", "$1")) : NO_SECTION;
    }

    private void keep(int section, String paragraph) {
        boolean isAboutTheFace = paragraph.startsWith("Ahead of the calls");
        if (section == NO_SECTION || paragraph.isEmpty() || isAboutTheFace) {
            return;
        }
        List<String> kept = sentences.computeIfAbsent(section, none -> new ArrayList<>());
        if (section != TERMS) {
            kept.add(paragraph.replaceFirst("^`[^`]*\\([^`]*`: ", "").replaceFirst("^- ", ""));
            return;
        }
        for (String sentence : paragraph.split("(?<=\\.)\\s+")) {
            if (sentence.split(" ").length > MOST_WORDS_OF_TITLE) {
                kept.add(sentence);
            }
        }
    }

    void quote(int section, String sentence) {
        if (!isThere) {
            return;
        }
        boolean stands = sentences.getOrDefault(section, List.of()).contains(sentence);
        Check.due("section " + section + " says: " + sentence, stands, true);
        quoted.computeIfAbsent(section, none -> new TreeSet<>()).add(sentence);
    }

    void dueAllQuoted() {
        int count = 0;
        for (Map.Entry<Integer, List<String>> section : sentences.entrySet()) {
            for (String sentence : section.getValue()) {
                boolean isQuoted = quoted.getOrDefault(section.getKey(), new TreeSet<>()).contains(sentence);
                Check.due("section " + section.getKey() + " is tried where it says: " + sentence, isQuoted, true);
                count++;
            }
        }
        Check.due("there are sentences", count > 0, isThere);
    }
}
