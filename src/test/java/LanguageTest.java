import java.io.IOException;
import java.nio.file.Files;
import java.nio.file.Path;
import java.util.regex.Matcher;
import java.util.regex.Pattern;

/** Some rules of LANGUAGE.md that can be seen in the source's text. */
public final class LanguageTest {
    private static final Check CHECK = new Check();
    private static final String[][] FORBIDDEN = {
        {"2: no lambda, no method reference", "->|::"},
        {"4: no library beyond the list", "\\b(Double|Float|Character|Objects|Collections|String\\.format|System\\.out)\\b"},
        {"4: no Exact functions", "Exact\\("},
        {"4: imports", "(?m)^import (?!java\\.util\\.(Arrays|ArrayList|List);)"},
        {"5: static fields are final", "\\bstatic (?!final\\b)[A-Za-z\\[\\]]+ [a-zA-Z]+ *[=;]"},
        {"5: static constants of the types listed", "\\bstatic final (?!int\\b|long\\b|boolean\\b|char\\b|String\\b|class\\b)"},
        {"5: no static block", "\\bstatic *\\{"},
        {"6: nothing is caught, no finally", "\\b(catch|finally|synchronized|assert)\\b"},
        {"10: texts are not joined by +", "\" *\\+|\\+ *\""},
        {"3: signs up to 127", "[^\\x00-\\x7f]"},
    };

    public static void main(String[] args) throws IOException {
        String source = Files.readString(Path.of("src/main/java/PachinkoReels.java"));
        String code = source.replaceAll("(?s)/\\*.*?\\*/", "").replaceAll("//[^\n]*", "");
        for (String[] rule : FORBIDDEN) {
            Matcher matcher = Pattern.compile(rule[1]).matcher(code);
            CHECK.due(rule[0], matcher.find() ? matcher.group() : "nothing", "nothing");
        }
        methodsAreShort(code);
        CHECK.end();
    }

    private static void methodsAreShort(String code) {
        int begun = 0;
        String[] lines = code.split("\n");
        for (int i = 0; i < lines.length; i++) {
            if (lines[i].matches(" {4}(    )?[a-z].*\\) *(throws [^{]*)?\\{")) {
                begun = i;
            }
            if (lines[i].matches(" {4}(    )?\\}") && i - begun > 60) {
                CHECK.due("11: a method of " + (i - begun) + " lines before line " + i, 61, 60);
            }
        }
    }
}
