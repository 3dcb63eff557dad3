import java.io.IOException;
import java.lang.reflect.Constructor;
import java.lang.reflect.Field;
import java.lang.reflect.Method;
import java.lang.reflect.Modifier;
import java.nio.file.Files;
import java.nio.file.Path;
import java.util.HashSet;
import java.util.Set;
import java.util.TreeSet;

/** The public face of the document, and what of LANGUAGE.md can be seen from outside or in the text. */
public final class FaceTest {
    private static final String INDEX = "IndexOutOfBoundsException";
    private static final String ARGUMENT = "IllegalArgumentException";
    private static final String STATE = "IllegalStateException";
    private static final String[] METHODS = {
        "int letter(char) " + ARGUMENT + " " + STATE,
        "int office(int) " + INDEX + " " + STATE,
        "int delegate(int,int) " + INDEX + " " + ARGUMENT,
        "int whose(int,int) " + INDEX + " " + ARGUMENT,
        "int limit(int,int) " + INDEX + " " + ARGUMENT,
        "int act(int,int,int) " + INDEX + " " + ARGUMENT + " " + STATE,
        "boolean court(int,boolean) " + INDEX,
        "boolean waive(int,boolean) " + INDEX,
        "void plea(int,int) " + INDEX + " " + STATE,
        "int bar(int,int) " + INDEX,
        "int complain(int,int) " + INDEX + " " + STATE,
        "int ask(int) " + INDEX + " " + STATE,
        "int answer(int) " + INDEX + " " + STATE,
        "void hear(int) " + INDEX + " " + STATE,
        "int find(int) " + INDEX + " " + STATE,
        "int remedy(int,int) " + INDEX + " " + ARGUMENT + " " + STATE,
        "int pass(int) " + ARGUMENT + " " + STATE,
        "int about(int,int) " + INDEX + " " + ARGUMENT,
        "int reminder(int) " + INDEX,
        "int fault(int) " + INDEX,
        "int likes(int) " + INDEX,
        "int remedied(int) " + INDEX,
        "int gains(int,int) " + INDEX + " " + ARGUMENT,
    };
    private static final String[] BARRED_TEXTS = {"import ", "package ", "->", "::", "finally", "synchronized",
        "assert", "catch", "instanceof", "static {", "Exact(", "System.", "random", "Thread"};

    private FaceTest() {
    }

    public static void main(String[] args) throws IOException {
        classItself();
        methods();
        fieldsAndConstructors();
        classesInside();
        text();
        Check.end();
    }

    private static void classItself() {
        int bits = Grievancehall.class.getModifiers();
        Check.due("the class is public", Modifier.isPublic(bits), true);
        Check.due("the class is final", Modifier.isFinal(bits), true);
        Check.due("the class has no package", Grievancehall.class.getPackageName().isEmpty(), true);
    }

    private static void methods() {
        Set<String> due = new TreeSet<>(Set.of(METHODS));
        Set<String> got = new TreeSet<>();
        Set<String> publicNames = new HashSet<>();
        Set<String> privateNames = new HashSet<>();
        for (Method method : Grievancehall.class.getDeclaredMethods()) {
            boolean isPrivate = Modifier.isPrivate(method.getModifiers());
            (isPrivate ? privateNames : publicNames).add(method.getName());
            if (!isPrivate) {
                got.add(told(method));
            }
            Check.due(method.getName() + " has at most 7 parameters", method.getParameterCount() <= 7, true);
        }
        Check.same("the methods", got, due);
        privateNames.retainAll(publicNames);
        Check.same("private names that are public ones", privateNames, Set.of());
    }

    private static String told(Method method) {
        StringBuilder text = new StringBuilder(method.getReturnType().getName() + " " + method.getName() + "(");
        String comma = "";
        for (Class<?> type : method.getParameterTypes()) {
            text.append(comma).append(type.getName());
            comma = ",";
        }
        text.append(")");
        for (Class<?> type : method.getExceptionTypes()) {
            text.append(" ").append(type.getSimpleName());
        }
        return text.toString();
    }

    private static void fieldsAndConstructors() {
        Set<String> open = new TreeSet<>();
        for (Field field : Grievancehall.class.getDeclaredFields()) {
            int bits = field.getModifiers();
            if (!Modifier.isPrivate(bits)) {
                open.add(field.getName());
                Check.due(field.getName() + " is a constant",
                    Modifier.isPublic(bits) && Modifier.isStatic(bits) && Modifier.isFinal(bits), true);
            }
            Check.due(field.getName() + " is final if it is static", !Modifier.isStatic(bits)
                || Modifier.isFinal(bits), true);
        }
        Check.same("the constants", open, new TreeSet<>(Set.of("NONE", "OPEN", "FOUND", "LAPSED")));
        Constructor<?>[] made = Grievancehall.class.getDeclaredConstructors();
        Check.due("one constructor", made.length, 1);
        Check.due("that is public", Modifier.isPublic(made[0].getModifiers()), true);
        Check.due("without parameters", made[0].getParameterCount(), 0);
    }

    private static void classesInside() {
        Class<?>[] inside = Grievancehall.class.getDeclaredClasses();
        Check.due("at most some twelve classes", inside.length <= 12, true);
        for (Class<?> each : inside) {
            int bits = each.getModifiers();
            Check.due(each + " is static", Modifier.isStatic(bits), true);
            Check.due(each + " is not open", !Modifier.isPublic(bits) && !Modifier.isProtected(bits), true);
            for (Field field : each.getDeclaredFields()) {
                Check.due(field + " is no state of all objects", !Modifier.isStatic(field.getModifiers()), true);
            }
        }
    }

    private static void text() throws IOException {
        String text = Files.readString(Path.of("src/main/java/Grievancehall.java"));
        for (String barred : BARRED_TEXTS) {
            Check.due("the text has: " + barred, text.contains(barred), false);
        }
        // The ones that a run pays for each call: besides exceptions, all is made in constructors.
        String[] lines = text.split("\n");
        String method = "";
        for (String line : lines) {
            if (line.matches(" {4,8}\\w[^;]*\\) ?\\{") || line.matches(" {4,8}public .*")) {
                method = line.strip();
            }
            if (line.contains("new ") && !line.contains("throw new ") && !line.strip().startsWith("//")
                    && !line.strip().startsWith("*")) {
                Check.due("made in a constructor: " + line.strip() + " in " + method,
                    method.matches("(public )?(Grievancehall|Changes|Act|Complaint)\\(\\) \\{"), true);
            }
        }
    }
}
