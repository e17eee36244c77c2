import java.lang.management.ManagementFactory;
import java.lang.reflect.Constructor;
import java.lang.reflect.Field;
import java.lang.reflect.Method;
import java.lang.reflect.Modifier;
import java.nio.file.Files;
import java.nio.file.Path;
import java.util.ArrayList;
import java.util.HashSet;
import java.util.List;
import java.util.Set;
import java.util.TreeSet;
import java.util.regex.Matcher;
import java.util.regex.Pattern;

/** The face of the document, and those rules of the language that can be seen from outside. */
public final class RulesTest {
    private static final String INDEX = "IndexOutOfBoundsException";
    private static final String ARGUMENT = "IllegalArgumentException";
    private static final String STATE = "IllegalStateException";
    private static final String[] FACE = {
        "int word(int, int, int, int, int) " + INDEX + " " + ARGUMENT + " " + STATE,
        "int rest(int) " + ARGUMENT,
        "int shift(int, int) " + INDEX + " " + ARGUMENT,
        "int withdraw(int) " + INDEX + " " + STATE,
        "int code(int, int, int) " + INDEX + " " + ARGUMENT,
        "int cite(int) " + INDEX + " " + STATE,
        "int call()",
        "int ofWord(int, int) " + INDEX + " " + ARGUMENT,
        "int ofTurn(int, int) " + INDEX + " " + ARGUMENT,
        "int ofQuestion(int, int) " + INDEX + " " + ARGUMENT,
        "int talk(int) " + ARGUMENT,
        "int between(int, int, int) " + INDEX + " " + ARGUMENT,
        "double mean(int, int) " + INDEX + " " + ARGUMENT,
        "int said(int) " + INDEX,
        "double floor(int) " + INDEX,
        "int test(boolean)",
        "double agreement()",
        "int cited(int) " + INDEX,
        "String row(int) " + INDEX,
        "boolean fits(int, int, int) " + INDEX,
        "int wouldCome(int) " + INDEX,
        "int bestRest(boolean)",
        "int bestShift(int) " + INDEX,
        "boolean isSound()",
        "long digest()",
    };

    private RulesTest() {
    }

    public static void main(String[] args) throws Exception {
        face();
        classesInside();
        source();
        room();
        Check.end("RulesTest");
    }

    private static void face() {
        Class<?> type = Turnwright.class;
        Check.due("public and final", Modifier.isPublic(type.getModifiers()) && Modifier.isFinal(type.getModifiers()), true);
        Set<String> got = new TreeSet<>();
        for (Method method : type.getDeclaredMethods()) {
            if (!Modifier.isPrivate(method.getModifiers())) {
                got.add(text(method));
            }
        }
        Check.due("the methods of the face", String.join("\n", got), String.join("\n", new TreeSet<>(List.of(FACE))));
        for (Field field : type.getDeclaredFields()) {
            Check.due("private: " + field, Modifier.isPrivate(field.getModifiers()), true);
            boolean isFinal = Modifier.isFinal(field.getModifiers());
            Check.due("final, if static: " + field, isFinal || !Modifier.isStatic(field.getModifiers()), true);
        }
        Constructor<?>[] constructors = type.getDeclaredConstructors();
        Check.due("constructors", constructors.length, 1);
        Check.due("public constructor", constructors[0].toString(), "public Turnwright()");
    }

    private static String text(Method method) {
        StringBuilder text = new StringBuilder();
        text.append(method.getReturnType().getSimpleName()).append(' ').append(method.getName()).append('(');
        List<String> parameters = new ArrayList<>();
        for (Class<?> parameter : method.getParameterTypes()) {
            parameters.add(parameter.getSimpleName());
        }
        text.append(String.join(", ", parameters)).append(')');
        for (Class<?> exception : method.getExceptionTypes()) {
            text.append(' ').append(exception.getSimpleName());
        }
        return text.toString();
    }

    private static void classesInside() {
        Set<String> names = new HashSet<>();
        for (Method method : Turnwright.class.getDeclaredMethods()) {
            if (Modifier.isPublic(method.getModifiers())) {
                names.add(method.getName());
            }
        }
        for (Method method : Turnwright.class.getDeclaredMethods()) {
            boolean isFace = Modifier.isPublic(method.getModifiers());
            Check.due("no name of the face: " + method, isFace || !names.contains(method.getName()), true);
        }
        Class<?>[] inside = Turnwright.class.getDeclaredClasses();
        Check.due("some twelve classes", inside.length <= 12, true);
        List<Class<?>> all = new ArrayList<>(List.of(inside));
        all.add(Turnwright.class);
        for (Class<?> type : all) {
            sizes(type);
        }
    }

    private static void sizes(Class<?> type) {
        int modifiers = type.getModifiers();
        Check.due("private or package-visible: " + type,
                type == Turnwright.class || !Modifier.isPublic(modifiers) && !Modifier.isProtected(modifiers), true);
        int fields = 0;
        for (Field field : type.getDeclaredFields()) {
            boolean isStatic = Modifier.isStatic(field.getModifiers());
            Check.due("final, if static: " + field, !isStatic || Modifier.isFinal(field.getModifiers()), true);
            fields += isStatic ? 0 : 1;
        }
        Check.due("some twenty fields: " + type, fields <= 20, true);
        for (Method method : type.getDeclaredMethods()) {
            Check.due("at most seven parameters: " + method, method.getParameterCount() <= 7, true);
        }
    }

    private static void source() throws Exception {
        String text = withoutComments(Files.readString(Path.of("src/main/java/Turnwright.java")));
        Check.due("signs from 1 to 127", text.chars().allMatch(sign -> sign >= 1 && sign <= 127), true);
        String[] ruledOut = {"::", "\\bfinally\\b", "\\bsynchronized\\b", "\\bassert\\b", "\\bpackage\\b",
            "\\bstatic\\s*\\{", "\\bSystem\\.(?!arraycopy\\b)", "\\w+Exact\\(", "\\bThread\\b", "\\bRandom\\b",
            "\\brandom\\(", "\\bgetMessage\\b", "\\bhashCode\\b", "\\bthrow\\s+(?!new\\b)",
            "\\bextends\\s+\\w*(Exception|Error|Throwable)\\b", "\\bcatch\\s*\\([^)]*(ArrayIndexOutOfBounds"
            + "|StringIndexOutOfBounds|NullPointer|ClassCast|NegativeArraySize|ArrayStore)Exception"};
        for (String part : ruledOut) {
            Check.due("ruled out: " + part, Pattern.compile(part).matcher(text).find(), false);
        }
        Matcher thrown = Pattern.compile("\\bthrow\\s+new\\s+(\\w+)").matcher(text);
        while (thrown.find()) {
            Check.due("may be thrown: " + thrown.group(1), List.of(INDEX, ARGUMENT, STATE, "ArithmeticException",
                    "UnsupportedOperationException", "NoSuchElementException", "RuntimeException").contains(thrown.group(1)), true);
        }
        Matcher imported = Pattern.compile("\\bimport\\s+([\\w.]+)").matcher(text);
        while (imported.find()) {
            Check.due("may be imported: " + imported.group(1), imported.group(1).startsWith("java.util."), true);
        }
    }

    private static String withoutComments(String text) {
        return text.replaceAll("(?s)/\\*.*?\\*/", " ").replaceAll("//[^\n]*", " ");
    }

    /** All calls of one run have room for some 600,000 objects of 16 bytes and 7.3 million elements of 4 bytes. */
    private static void room() {
        long most = 600_000L * 16 + 7_300_000L * 4;
        long[] made = new long[3];
        for (int way = 0; way < made.length; way++) {
            run(way, 0);
            long before = allocated();
            run(way, 512 - 120);
            made[way] = allocated() - before;
            Check.due("room of a run in way " + way + ": " + made[way], made[way] <= most, true);
        }
    }

    private static long allocated() {
        com.sun.management.ThreadMXBean memory = (com.sun.management.ThreadMXBean) ManagementFactory.getThreadMXBean();
        return memory.getThreadAllocatedBytes(Thread.currentThread().getId());
    }

    /** Tells 120 WORDS, and then makes the dearest calls of a way. */
    private static void run(int way, int calls) {
        Turnwright x = new Turnwright();
        for (int word = 0; word < 120; word++) {
            int speaker = way == 1 ? 0 : word % 3 == 0 ? 0 : 1 + word % 4;
            x.word(speaker, word * 9, way == 1 ? 1 : 9, word % 7, -1);
        }
        for (int call = 0; call < calls; call++) {
            if (way == 0) {
                x.digest();
            } else if (way == 1) {
                x.row(0);
            } else {
                x.shift(call % 5, call % 100);
            }
        }
    }
}
