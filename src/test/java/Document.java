import java.io.IOException;
import java.io.UncheckedIOException;
import java.nio.file.Files;
import java.nio.file.Path;
import java.util.LinkedHashSet;
import java.util.Set;
import java.util.TreeSet;

/**
 * The sentences of ../shared/DOC.md, from its first line to its last; parts that a semicolon ends count as sentences.
 * A test quotes the one that it is about, so that none is left without a test. The face is FaceTest's.
 */
final class Document {
    private static final Path PAGE = Path.of("../shared/DOC.md");
    private static final Set<String> SENTENCES = read();
    private static final Set<String> QUOTED = new TreeSet<>();

    private static String last = "";
    private static int checksBefore = 0;

    private Document() {
    }

    /** What is checked from here on is about this sentence of the part with that heading. */
    static void part(String heading, String sentence) {
        quote(heading + ": " + sentence);
    }

    static void description(String sentence) {
        part("Description", sentence);
    }

    static void promise(int number, String sentence) {
        part("Promise " + number, sentence);
    }

    /** After the last test: each sentence has been quoted. */
    static void isTested() {
        endQuote();
        for (String sentence : SENTENCES) {
            Check.is("a test quotes <" + sentence + ">", QUOTED.contains(sentence), true);
        }
    }

    private static void quote(String sentence) {
        endQuote();
        Check.is("the document has <" + sentence + ">", SENTENCES.contains(sentence), true);
        Check.is("<" + sentence + "> is quoted once", QUOTED.add(sentence), true);
        last = sentence;
        checksBefore = Check.count();
        Check.about("<" + sentence + "> ");
    }

    private static void endQuote() {
        Check.about("");
        if (!last.isEmpty()) {
            Check.is("something is checked about <" + last + ">", Check.count() > checksBefore, true);
        }
    }

    private static Set<String> read() {
        Set<String> sentences = new LinkedHashSet<>();
        String place = "";
        boolean isFace = false;
        try {
            for (String line : Files.readAllLines(PAGE)) {
                if (line.startsWith("#")) {
                    place = placeOf(line);
                } else if (line.startsWith("```")) {
                    isFace = !isFace;
                } else if (!isFace && isProse(line)) {
                    addSentences(sentences, place, line);
                }
            }
        } catch (IOException e) {
            throw new UncheckedIOException(e);
        }
        return sentences;
    }

    /** What stands behind the number of a promise is the name of its method. */
    private static String placeOf(String heading) {
        return heading.replaceAll("^#+ |:.*$", "");
    }

    /** No signature and no group's name; of the parameters those alone that are told with numbers. */
    private static boolean isProse(String line) {
        if (line.startsWith("- ")) {
            return line.chars().anyMatch(Character::isDigit);
        }
        return !line.startsWith("`") && !line.startsWith("----");
    }

    private static void addSentences(Set<String> sentences, String place, String line) {
        for (String part : line.strip().split("(?<=[.;]) ")) {
            String sentence = part.replaceAll("[.;:]$", "");
            // Time, Zones, Doors and their like are no sentences.
            if (sentence.contains(" ")) {
                sentences.add(place + ": " + sentence);
            }
        }
    }

    public static void main(String[] args) {
        SENTENCES.forEach(System.out::println);
    }
}
