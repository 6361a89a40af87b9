import java.io.IOException;
import java.io.UncheckedIOException;
import java.nio.file.Files;
import java.nio.file.Path;
import java.util.ArrayList;
import java.util.Arrays;
import java.util.List;
import java.util.regex.Matcher;
import java.util.regex.Pattern;

/** The words of DOC.md, by promise. */
final class Document {
    static final int PROMISES = 29;

    private static final String WORDS = read().replaceAll("[ \t]+", " ");
    private static final Pattern SIGNATURE = Pattern.compile("^`[^`]*\\([^`]*`: ");

    private Document() {
    }

    private static String read() {
        try {
            return Files.readString(Path.of("../shared/DOC.md"));
        } catch (IOException e) {
            throw new UncheckedIOException(e);
        }
    }

    /** The lines of the public face, from the class on to the last method. */
    static List<String> face() {
        Matcher matcher = Pattern.compile("(?s)```java\n(.*?)\n}\n```").matcher(WORDS);
        if (!matcher.find()) {
            throw new IllegalArgumentException("no face");
        }
        return Arrays.stream(matcher.group(1).split("\n")).map(String::strip).toList();
    }

    /** The calls below a heading of the face, and the heading. */
    static Matcher headings() {
        return Pattern.compile("Ahead of the calls (.*) the interface says: (---- .*)\\.").matcher(WORDS);
    }

    /** What stands ahead of the promises. */
    static String terms() {
        return WORDS.substring(0, WORDS.indexOf("## Promise 1:"));
    }

    static String promise(int number) {
        Matcher matcher = Pattern.compile("(?ms)^## Promise " + number + ": [^\n]*\n(.*?)(?=^## |\\z)").matcher(WORDS);
        if (!matcher.find()) {
            throw new IllegalArgumentException("no promise " + number);
        }
        return matcher.group(1);
    }

    /** The sentences of a promise: those behind its signature, and each line below it. */
    static List<String> sentencesOf(int promise) {
        List<String> sentences = new ArrayList<>();
        for (String line : promise(promise).split("\n")) {
            addSentences(sentences, SIGNATURE.matcher(line).replaceFirst(""));
        }
        return sentences;
    }

    /** The sentences of the terms, from the pins on to the constants. */
    static List<String> sentencesOfTerms() {
        String terms = terms();
        List<String> sentences = new ArrayList<>();
        for (String line : terms.substring(terms.indexOf("## Terms")).split("\n")) {
            addSentences(sentences, line);
        }
        sentences.removeIf(sentence -> sentence.startsWith("Ahead of the calls") && !sentence.endsWith("nothing is changed."));
        return sentences;
    }

    private static void addSentences(List<String> sentences, String line) {
        boolean isHeading = line.startsWith("#") || !line.matches(".*[.;:`0-9].*");
        if (!isHeading) {
            sentences.addAll(List.of(line.split("(?<=\\.\\)?) ")));
        }
    }
}
