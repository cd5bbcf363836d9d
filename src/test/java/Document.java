import java.io.IOException;
import java.io.UncheckedIOException;
import java.nio.file.Files;
import java.nio.file.Path;
import java.util.ArrayList;
import java.util.List;

/** The sentences of the document, and which of them a test has named. */
final class Document {
    private static final Path FILE = Path.of("../shared/DOC.md");

    private static final class Sentence {
        private final String section;
        private final String text;
        private boolean named;

        Sentence(String section, String text) {
            this.section = section;
            this.text = text;
        }
    }

    private static final List<Sentence> SENTENCES = read();

    private Document() {
    }

    /** Marks the sentences of a section that hold these words; false if there is none, in a document that was found. */
    static boolean name(String section, String words) {
        boolean found = SENTENCES.isEmpty();
        for (Sentence sentence : SENTENCES) {
            if (sentence.section.equals(section) && sentence.text.contains(words)) {
                sentence.named = true;
                found = true;
            }
        }
        return found;
    }

    /** Whether the document has these words, however its lines are broken, or was not found. */
    static boolean holds(String words) {
        String text = String.join(" ", lines()).replaceAll("\\s+", " ");
        return text.isEmpty() || text.contains(words);
    }

    /** The sentences of the description and of the promises that no test has named. */
    static List<String> unnamed() {
        List<String> texts = new ArrayList<>();
        for (Sentence sentence : SENTENCES) {
            boolean promises = sentence.section.equals("Description") || sentence.section.startsWith("Promise ");
            if (promises && !sentence.named) {
                texts.add(sentence.text);
            }
        }
        return texts;
    }

    private static List<Sentence> read() {
        List<Sentence> sentences = new ArrayList<>();
        StringBuilder paragraph = new StringBuilder();
        String section = "";
        for (String line : lines()) {
            boolean standsAlone = line.startsWith("#") || line.startsWith("- ") || line.startsWith("`");
            if (standsAlone || line.isBlank()) {
                addSentences(sentences, section, paragraph);
            }
            if (line.startsWith("#")) {
                section = line.replaceAll("^#+ |:.*", "");
            } else {
                paragraph.append(line).append(' ');
            }
            if (standsAlone) {
                addSentences(sentences, section, paragraph);
            }
        }
        addSentences(sentences, section, paragraph);
        return sentences;
    }

    private static void addSentences(List<Sentence> sentences, String section, StringBuilder paragraph) {
        String text = paragraph.toString().replaceAll("\\s+", " ").trim();
        paragraph.setLength(0);
        for (String sentence : text.split("(?<=\\.) (?=[A-Z])")) {
            if (!sentence.isEmpty()) {
                sentences.add(new Sentence(section, sentence));
            }
        }
    }

    private static List<String> lines() {
        if (!Files.isReadable(FILE)) {
            System.out.println("there is no " + FILE + ": the sentences that the tests name are not compared with it");
            return List.of();
        }
        try {
            return Files.readAllLines(FILE);
        } catch (IOException e) {
            throw new UncheckedIOException(e);
        }
    }
}
