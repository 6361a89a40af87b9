import java.io.IOException;
import java.lang.reflect.Constructor;
import java.lang.reflect.Field;
import java.lang.reflect.Member;
import java.lang.reflect.Method;
import java.lang.reflect.Modifier;
import java.nio.file.Files;
import java.nio.file.Path;
import java.util.ArrayList;
import java.util.List;
import java.util.Set;
import java.util.TreeSet;
import java.util.regex.Matcher;
import java.util.regex.Pattern;

/** The public face is the document's, with the exceptions that it names, and nothing else can be seen. */
public final class FaceTest {
    private static final Check CHECK = new Check();
    private static final Pattern METHOD = Pattern.compile("public \\w+ (\\w+)\\(");

    public static void main(String[] args) throws IOException {
        asWritten();
        asCompiled();
        constructors();
        fields();
        classes();
        CHECK.due("the class is final", bit(Modifier.isFinal(PachinkoReels.class.getModifiers())), 1);
        CHECK.due("NONE", PachinkoReels.NONE, -1);
        CHECK.end();
    }

    /** The methods that can be seen are those of the document, and no private one bears a name of theirs. */
    private static void asCompiled() {
        Set<String> due = new TreeSet<>();
        Set<String> names = new TreeSet<>();
        for (String line : Document.face()) {
            Matcher method = METHOD.matcher(line);
            if (method.find()) {
                due.add(signature(line));
                names.add(method.group(1));
            }
        }
        CHECK.due("methods in the document", due.size(), 28);
        Set<String> got = new TreeSet<>();
        for (Method method : PachinkoReels.class.getDeclaredMethods()) {
            boolean isSeen = !isPrivate(method);
            CHECK.due(method.getName() + " is public", bit(Modifier.isPublic(method.getModifiers())), bit(isSeen));
            CHECK.due(method.getName() + " is a name of the face", bit(names.contains(method.getName())), bit(isSeen));
            if (isSeen) {
                got.add(signature(method));
            }
        }
        CHECK.due("the methods", got.toString(), due.toString());
    }

    /** The source holds each line of the face, with the parameters' names, and the methods in their order below their headings. */
    private static void asWritten() throws IOException {
        String source = Files.readString(Path.of("src/main/java/PachinkoReels.java"));
        String flat = source.replaceAll("\\s+", " ");
        for (String line : Document.face()) {
            String written = line.replaceFirst("\\);$", ") {").replaceFirst("Exception;$", "Exception {");
            CHECK.due(line, flat.contains(written) ? "is written so" : "is not", "is written so");
        }
        Matcher headings = Document.headings();
        int seen = 0;
        while (headings.find()) {
            seen++;
            String names = headings.group(1).replaceAll("[`,]", "");
            CHECK.due(headings.group(2), methodsBelow(source, headings.group(2)), names);
        }
        CHECK.due("headings in the document", seen, 6);
    }

    private static String methodsBelow(String source, String heading) {
        int from = source.indexOf("// " + heading + "\n");
        if (from < 0) {
            return "no such heading";
        }
        int next = source.indexOf("// ----", from + 1);
        Matcher method = METHOD.matcher(source.substring(from, next < 0 ? source.length() : next));
        List<String> names = new ArrayList<>();
        while (method.find()) {
            names.add(method.group(1));
        }
        return String.join(" ", names);
    }

    private static long bit(boolean answer) {
        return answer ? 1 : 0;
    }

    /** A line of the document's face, without the parameters' names. */
    private static String signature(String line) {
        return line.replaceFirst("^public ", "").replaceAll("(int|long|double) \\w+([,)])", "$1$2").replaceFirst(";$", "");
    }

    private static String signature(Method method) {
        StringBuilder text = new StringBuilder();
        text.append(method.getReturnType().getSimpleName()).append(' ').append(method.getName());
        text.append('(').append(names(method.getParameterTypes())).append(')');
        if (method.getExceptionTypes().length > 0) {
            text.append(" throws ").append(names(method.getExceptionTypes()));
        }
        return text.toString();
    }

    private static String names(Class<?>[] types) {
        List<String> names = new ArrayList<>();
        for (Class<?> type : types) {
            names.add(type.getSimpleName());
        }
        return String.join(", ", names);
    }

    private static void constructors() {
        Constructor<?>[] all = PachinkoReels.class.getDeclaredConstructors();
        CHECK.due("one constructor", all.length, 1);
        CHECK.due("without arguments", all[0].getParameterCount(), 0);
        CHECK.due("public", bit(Modifier.isPublic(all[0].getModifiers())), 1);
    }

    private static void fields() {
        for (Field field : PachinkoReels.class.getDeclaredFields()) {
            boolean isNone = field.getName().equals("NONE");
            CHECK.due(field.getName(), bit(Modifier.isPublic(field.getModifiers())), bit(isNone));
            CHECK.due(field.getName() + " is not private", bit(!isPrivate(field)), bit(isNone));
        }
    }

    private static boolean isPrivate(Member member) {
        return Modifier.isPrivate(member.getModifiers());
    }

    private static void classes() {
        for (Class<?> inside : PachinkoReels.class.getDeclaredClasses()) {
            CHECK.due(inside.getName() + " can be seen", bit(Modifier.isPublic(inside.getModifiers())), 0);
            CHECK.due(inside.getName() + " is static", bit(Modifier.isStatic(inside.getModifiers())), 1);
        }
    }
}
