import java.lang.reflect.Method;
import java.nio.file.Files;
import java.nio.file.Path;
import java.util.ArrayList;
import java.util.HashSet;
import java.util.List;
import java.util.Set;
import java.util.stream.Stream;

/** Each sentence of each promise, and of the terms, has a test that says it; and what a test says stands in the document. */
public final class SentencesTest {
    private static final Check CHECK = new Check();

    public static void main(String[] args) throws Exception {
        List<Class<?>> all = testsOfPromises();
        Set<String> said = new HashSet<>();
        for (Class<?> tests : all) {
            for (Method test : Sentences.testsOf(tests)) {
                String words = test.getAnnotation(Says.class).value();
                said.add(words);
                dueInDocument(test, Sentences.promiseOf(tests), words);
            }
        }
        for (int promise = 1; promise <= Document.PROMISES; promise++) {
            Set<String> ofIt = saidOf(all, promise);
            for (String sentence : Document.sentencesOf(promise)) {
                dueSaid("promise " + promise, sentence, ofIt);
            }
        }
        for (String sentence : Document.sentencesOfTerms()) {
            dueSaid("the terms", sentence, said);
        }
        CHECK.end();
    }

    private static List<Class<?>> testsOfPromises() throws Exception {
        List<Class<?>> all = new ArrayList<>();
        try (Stream<Path> files = Files.list(Path.of("src/test/java"))) {
            for (Path file : files.sorted().toList()) {
                String name = file.getFileName().toString();
                if (name.matches("Promise\\d\\d\\w+Test\\.java")) {
                    all.add(Class.forName(name.replace(".java", "")));
                }
            }
        }
        return all;
    }

    private static void dueInDocument(Method test, int promise, String words) {
        boolean stands = Document.terms().contains(words) || Document.promise(promise).contains(words);
        String name = test.getDeclaringClass().getSimpleName() + "." + test.getName();
        CHECK.due(name + " says \"" + words + "\"", stands ? "in the document" : "nowhere", "in the document");
    }

    private static Set<String> saidOf(List<Class<?>> all, int promise) {
        Set<String> said = new HashSet<>();
        for (Class<?> tests : all) {
            if (Sentences.promiseOf(tests) == promise) {
                Sentences.testsOf(tests).forEach(test -> said.add(test.getAnnotation(Says.class).value()));
            }
        }
        return said;
    }

    private static void dueSaid(String where, String sentence, Set<String> said) {
        boolean isSaid = said.stream().anyMatch(words -> sentence.contains(words) || words.contains(sentence));
        CHECK.due(where + ": \"" + sentence + "\"", isSaid ? "has a test" : "has none", "has a test");
    }
}
