import java.io.IOException;
import java.io.UncheckedIOException;
import java.nio.file.Files;
import java.nio.file.Path;
import java.util.ArrayList;
import java.util.List;
import java.util.TreeMap;
import java.util.regex.Matcher;
import java.util.regex.Pattern;

/** The document, cut into the sentences of its sections, so that a test can quote the sentence that it stands for. */
final class Document {
    /** The section ahead of all, and the section of the words that all promises use; a promise has its own number. */
    static final int WHAT_IT_IS = -1;
    static final int TERMS = 0;

    private static final Path FILE = Path.of("../shared/DOC.md");
    private static final Pattern PROMISE = Pattern.compile("## Promise (\\d+): .*");
    private static final TreeMap<Integer, List<String>> SECTIONS = read();

    private Document() {
    }

    /** Returns the sentence of a section that is the quote or, if none is, the first one that holds it; or null. */
    static String sentenceOf(int section, String quote) {
        List<String> sentences = SECTIONS.get(section);
        if (sentences.contains(quote)) {
            return sentences.get(sentences.indexOf(quote));
        }
        return sentences.stream().filter(sentence -> sentence.contains(quote)).findFirst().orElse(null);
    }

    /** All sentences that say something to test, with the number of their section ahead. */
    static List<String> owed() {
        List<String> owed = new ArrayList<>();
        for (int section : SECTIONS.keySet()) {
            for (String sentence : SECTIONS.get(section)) {
                if (section >= WHAT_IT_IS && !saysNothing(sentence)) {
                    owed.add(section + ": " + sentence);
                }
            }
        }
        return owed;
    }

    /** A heading of a paragraph ("Further rules."), or where a comment stands in the interface. */
    private static boolean saysNothing(String sentence) {
        return sentence.startsWith("Ahead of the calls") || sentence.matches("[A-Z][a-z]+( rules)?\\.");
    }

    private static TreeMap<Integer, List<String>> read() {
        TreeMap<Integer, List<String>> sections = new TreeMap<>();
        List<String> sentences = new ArrayList<>();
        StringBuilder paragraph = new StringBuilder();
        for (String line : lines()) {
            if (line.isBlank() || line.startsWith("- ") || line.startsWith("## ")) {
                cut(paragraph, sentences);
            }
            if (line.startsWith("## ")) {
                sentences = new ArrayList<>();
                sections.put(numberOf(line), sentences);
            } else {
                paragraph.append(line).append(' ');
            }
        }
        cut(paragraph, sentences);
        return sections;
    }

    private static List<String> lines() {
        try {
            return Files.readAllLines(FILE);
        } catch (IOException e) {
            throw new UncheckedIOException(e);
        }
    }

    private static int numberOf(String heading) {
        Matcher matcher = PROMISE.matcher(heading);
        if (matcher.matches()) {
            return Integer.parseInt(matcher.group(1));
        }
        // The face, which FaceTest looks at, and what is not promised share one number; none of them is quoted.
        return heading.equals("## Terms") ? TERMS : heading.equals("## What it is") ? WHAT_IT_IS : -2;
    }

    private static void cut(StringBuilder paragraph, List<String> sentences) {
        String text = paragraph.toString().trim().replaceAll("\\s+", " ");
        paragraph.setLength(0);
        if (text.contains("Reason: ")) {
            // A constant: the reason, its number and its detail belong together.
            sentences.add(text);
        } else if (!text.isEmpty()) {
            sentences.addAll(List.of(text.split("(?<=\\.) (?=[\"A-Z])")));
        }
    }
}
