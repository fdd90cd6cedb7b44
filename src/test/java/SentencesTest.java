import java.io.IOException;
import java.nio.file.Files;
import java.nio.file.Path;
import java.util.LinkedHashSet;
import java.util.Set;

/**
 * Each sentence of the document has a test of its own, under the sentence's own words; and the
 * document is read to see that none was left out, and that none was written down otherwise.
 */
public final class SentencesTest {
    private static final Path DOCUMENT = Path.of("../shared/DOC.md");
    /** A full stop, perhaps within a bracket, and a new beginning; the two dots of "0 .. 5" end nothing. */
    private static final String SENTENCE_END = "(?<=(?<!\\.)\\.|\\.\\)) (?=[\\w(])";
    /** Headings and the summary: they say nothing that a call could answer otherwise. */
    private static final Set<String> WITHOUT_A_CASE = Set.of(
        "Terms|STRIPS.", "Terms|REFUSALS.", "Terms|STATUS.",
        "What it is|A desk for the lamps of a loft: six banks with four strips each, which are hung, struck, shared, "
            + "set and faded; a sheet on which what the lamps show is drawn.");

    private static final Due due = new Due();

    public static void main(String[] args) throws IOException {
        Set<String> held = new LinkedHashSet<>();
        new SentencesOfTerms(due, held).hold();
        new SentencesOfPromises(due, held).hold();
        if (Files.isReadable(DOCUMENT)) {
            compare(sentencesOf(Files.readString(DOCUMENT)), held);
        } else {
            // The answers are what matters: they are tested with or without the document at hand.
            System.out.println("NOT COMPARED with the words of " + DOCUMENT + ", which can't be read here");
        }
        due.finish();
    }

    private static void compare(Set<String> written, Set<String> held) {
        for (String sentence : written) {
            boolean isHeld = held.contains(sentence) || WITHOUT_A_CASE.contains(sentence);
            due.is("a test for " + sentence, isHeld ? 1 : 0, 1);
        }
        for (String sentence : held) {
            due.is("the document says " + sentence, written.contains(sentence) ? 1 : 0, 1);
        }
    }

    private static Set<String> sentencesOf(String document) {
        Set<String> sentences = new LinkedHashSet<>();
        String section = "";
        for (String line : document.split("\n")) {
            if (line.startsWith("## ")) {
                section = line.substring(3).trim();
            } else if (section.equals("What it is") || section.equals("Terms") || section.startsWith("Promise ")) {
                addSentences(section, line.trim(), sentences);
            }
        }
        return sentences;
    }

    private static void addSentences(String section, String line, Set<String> sentences) {
        String words = line.replaceFirst("^`[^`]*`: ", "");
        if (words.isEmpty()) {
            return;
        }
        for (String sentence : words.split(SENTENCE_END)) {
            sentences.add(section + "|" + sentence);
        }
    }
}
