import java.lang.management.ManagementFactory;
import java.lang.reflect.Constructor;
import java.lang.reflect.Field;
import java.lang.reflect.Method;
import java.lang.reflect.Modifier;
import java.nio.file.Files;
import java.nio.file.Path;
import java.util.ArrayList;
import java.util.HashSet;
import java.util.List;
import java.util.Set;
import java.util.TreeSet;

/** The face of the document, and those rules of the language that can be seen from outside. */
public final class RulesTest {
    private static final String INDEX = "IndexOutOfBoundsException";
    private static final String ARGUMENT = "IllegalArgumentException";
    private static final String STATE = "IllegalStateException";
    private static final String[] FACE = {
        "int word(int, int, int, int, int) " + INDEX + " " + ARGUMENT + " " + STATE,
        "int rest(int) " + ARGUMENT,
        "int shift(int, int) " + INDEX + " " + ARGUMENT,
        "int withdraw(int) " + INDEX + " " + STATE,
        "int code(int, int, int) " + INDEX + " " + ARGUMENT,
        "int cite(int) " + INDEX + " " + STATE,
        "int call()",
        "int ofWord(int, int) " + INDEX + " " + ARGUMENT,
        "int ofTurn(int, int) " + INDEX + " " + ARGUMENT,
        "int ofQuestion(int, int) " + INDEX + " " + ARGUMENT,
        "int talk(int) " + ARGUMENT,
        "int between(int, int, int) " + INDEX + " " + ARGUMENT,
        "double mean(int, int) " + INDEX + " " + ARGUMENT,
        "int said(int) " + INDEX,
        "double floor(int) " + INDEX,
        "int test(boolean)",
        "double agreement()",
        "int cited(int) " + INDEX,
        "String row(int) " + INDEX,
        "boolean fits(int, int, int) " + INDEX,
        "int wouldCome(int) " + INDEX,
        "int bestRest(boolean)",
        "int bestShift(int) " + INDEX,
        "boolean isSound()",
        "long digest()",
    };

    private RulesTest() {
    }

    public static void main(String[] args) throws Exception {
        face();
        classesInside();
        source();
        room();
        Check.end("RulesTest");
    }

    private static void face() {
        Class<?> type = Turnwright.class;
        Check.due("public and final", Modifier.isPublic(type.getModifiers()) && Modifier.isFinal(type.getModifiers()), true);
        Set<String> got = new TreeSet<>();
        for (Method method : type.getDeclaredMethods()) {
            if (!Modifier.isPrivate(method.getModifiers())) {
                got.add(text(method));
            }
        }
        Check.due("the methods of the face", String.join("\n", got), String.join("\n", new TreeSet<>(List.of(FACE))));
        for (Field field : type.getDeclaredFields()) {
            Check.due("private: " + field, Modifier.isPrivate(field.getModifiers()), true);
            boolean isFinal = Modifier.isFinal(field.getModifiers());
            Check.due("final, if static: " + field, isFinal || !Modifier.isStatic(field.getModifiers()), true);
        }
        Constructor<?>[] constructors = type.getDeclaredConstructors();
        Check.due("constructors", constructors.length, 1);
        Check.due("public constructor", constructors[0].toString(), "public Turnwright()");
    }

    private static String text(Method method) {
        StringBuilder text = new StringBuilder();
        text.append(method.getReturnType().getSimpleName()).append(' ').append(method.getName()).append('(');
        List<String> parameters = new ArrayList<>();
        for (Class<?> parameter : method.getParameterTypes()) {
            parameters.add(parameter.getSimpleName());
        }
        text.append(String.join(", ", parameters)).append(')');
        for (Class<?> exception : method.getExceptionTypes()) {
            text.append(' ').append(exception.getSimpleName());
        }
        return text.toString();
    }

    private static void classesInside() {
        Set<String> names = new HashSet<>();
        for (Method method : Turnwright.class.getMethods()) {
            names.add(method.getName());
        }
        Class<?>[] inside = Turnwright.class.getDeclaredClasses();
        Check.due("at most twelve classes", inside.length <= 11, true);
        List<Class<?>> all = new ArrayList<>(List.of(inside));
        all.add(Turnwright.class);
        for (Class<?> type : all) {
            boolean isInside = type != Turnwright.class;
            Check.due("private and static: " + type, !isInside
                    || Modifier.isPrivate(type.getModifiers()) && Modifier.isStatic(type.getModifiers()), true);
            int fields = 0;
            for (Field field : type.getDeclaredFields()) {
                fields += Modifier.isStatic(field.getModifiers()) ? 0 : 1;
            }
            Check.due("at most twenty fields: " + type, fields <= 20, true);
            for (Method method : type.getDeclaredMethods()) {
                boolean isFace = Modifier.isPublic(method.getModifiers());
                Check.due("no name of the face: " + method, isFace || !names.contains(method.getName()), true);
                Check.due("at most seven parameters: " + method, method.getParameterCount() <= 7, true);
            }
        }
    }

    private static void source() throws Exception {
        String text = Files.readString(Path.of("src/main/java/Turnwright.java"));
        Check.due("signs from 1 to 127", text.chars().allMatch(sign -> sign >= 1 && sign <= 127), true);
        String[] ruledOut = {"->", "::", "try {", "catch", "finally", "synchronized", "assert", "package ", "extends",
            "System.", "Random", "Thread", "Math.random", "static {", "throw e", "getMessage", "@"};
        for (String part : ruledOut) {
            Check.due("ruled out: " + part, text.contains(part), false);
        }
        for (String line : text.split("\n")) {
            Check.due(line, !line.startsWith("import") || line.equals("import java.util.Arrays;"), true);
            Check.due("a line of at most 120 signs", line.length() <= 120, true);
        }
    }

    /** The dearest calls, as often as an object can be called, make little. */
    private static void room() {
        long most = 4_000_000;
        Turnwright x = new Turnwright();
        for (int word = 0; word < 120; word++) {
            x.word(word % 3 == 0 ? 0 : 1 + word % 4, word * 9, 9, word % 7, -1);
        }
        Turnwright one = new Turnwright();
        for (int word = 0; word < 120; word++) {
            one.word(0, word * 5, 1, 0, -1);
        }
        x.digest();
        one.row(0);
        com.sun.management.ThreadMXBean memory = (com.sun.management.ThreadMXBean) ManagementFactory.getThreadMXBean();
        long thread = Thread.currentThread().getId();
        long before = memory.getThreadAllocatedBytes(thread);
        for (int call = 0; call < 512; call++) {
            x.digest();
        }
        long behind = memory.getThreadAllocatedBytes(thread);
        Check.due("room of 512 digests: " + (behind - before), behind - before < most, true);
        for (int call = 0; call < 512; call++) {
            one.row(0);
        }
        long last = memory.getThreadAllocatedBytes(thread);
        Check.due("room of 512 rows: " + (last - behind), last - behind < most, true);
    }
}
