import java.lang.reflect.Constructor;
import java.lang.reflect.Field;
import java.lang.reflect.Member;
import java.lang.reflect.Method;
import java.lang.reflect.Modifier;
import java.util.Set;
import java.util.TreeSet;

/** The public face is the document's, with the exceptions that it names, and nothing else can be seen. */
public final class FaceTest {
    private static final Check CHECK = new Check();
    private static final String[] FACE = {
        "int bend(int,int,int) INDEX ARGUMENT", "int pocket(int,int,int) INDEX ARGUMENT", "int start(int) INDEX",
        "int set(int,int) INDEX ARGUMENT", "int shuffle(int) ARGUMENT", "int buy(int) ARGUMENT",
        "int launch(int) INDEX STATE", "int play(int,int) INDEX ARGUMENT", "int append(int) ARGUMENT STATE",
        "int clearBuffer()", "int firstError()", "int work() ARGUMENT", "int undo() STATE", "int keep()",
        "int restore() STATE", "int pin(int,int) INDEX", "int bent(int) ARGUMENT", "int touched(int) ARGUMENT",
        "int pocketOf(int,int) INDEX ARGUMENT", "int reel(int) INDEX", "int count(int) ARGUMENT",
        "int ways(int,int) INDEX", "int walked(int,int) INDEX", "int ifLaunched(int,int) INDEX ARGUMENT",
        "int bestColumn()", "int untilOpen(int) INDEX", "double payback()", "long digest()",
    };

    public static void main(String[] args) {
        Set<String> due = new TreeSet<>(Set.of(FACE));
        Set<String> got = new TreeSet<>();
        for (Method method : PachinkoReels.class.getDeclaredMethods()) {
            if (!Modifier.isPrivate(method.getModifiers())) {
                CHECK.due(method.getName() + " is public", bit(Modifier.isPublic(method.getModifiers())), 1);
                got.add(signature(method));
            }
        }
        CHECK.due("the methods", got.toString(), due.toString());
        constructors();
        fields();
        classes();
        CHECK.due("the class is final", bit(Modifier.isFinal(PachinkoReels.class.getModifiers())), 1);
        CHECK.due("NONE", PachinkoReels.NONE, -1);
        CHECK.end();
    }

    private static long bit(boolean answer) {
        return answer ? 1 : 0;
    }

    private static String signature(Method method) {
        StringBuilder text = new StringBuilder();
        text.append(method.getReturnType().getSimpleName()).append(' ').append(method.getName()).append('(');
        for (int i = 0; i < method.getParameterCount(); i++) {
            text.append(i == 0 ? "" : ",").append(method.getParameterTypes()[i].getSimpleName());
        }
        text.append(')');
        for (Class<?> thrown : method.getExceptionTypes()) {
            text.append(' ').append(shortName(thrown));
        }
        return text.toString();
    }

    private static String shortName(Class<?> thrown) {
        if (thrown == IndexOutOfBoundsException.class) {
            return "INDEX";
        }
        if (thrown == IllegalArgumentException.class) {
            return "ARGUMENT";
        }
        return thrown == IllegalStateException.class ? "STATE" : thrown.getName();
    }

    private static void constructors() {
        Constructor<?>[] all = PachinkoReels.class.getDeclaredConstructors();
        CHECK.due("one constructor", all.length, 1);
        CHECK.due("without arguments", all[0].getParameterCount(), 0);
        CHECK.due("public", bit(Modifier.isPublic(all[0].getModifiers())), 1);
    }

    private static void fields() {
        for (Field field : PachinkoReels.class.getDeclaredFields()) {
            boolean isNone = field.getName().equals("NONE");
            CHECK.due(field.getName(), bit(Modifier.isPublic(field.getModifiers())), bit(isNone));
            CHECK.due(field.getName() + " is not private", bit(!isPrivate(field)), bit(isNone));
        }
    }

    private static boolean isPrivate(Member member) {
        return Modifier.isPrivate(member.getModifiers());
    }

    private static void classes() {
        for (Class<?> inside : PachinkoReels.class.getDeclaredClasses()) {
            CHECK.due(inside.getName() + " can be seen", bit(Modifier.isPublic(inside.getModifiers())), 0);
            CHECK.due(inside.getName() + " is static", bit(Modifier.isStatic(inside.getModifiers())), 1);
        }
    }
}
