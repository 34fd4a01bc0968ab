import com.sun.management.ThreadMXBean;
import java.io.IOException;
import java.lang.management.ManagementFactory;
import java.lang.reflect.Constructor;
import java.lang.reflect.Field;
import java.lang.reflect.Method;
import java.lang.reflect.Modifier;
import java.nio.file.Files;
import java.nio.file.Path;
import java.util.ArrayList;
import java.util.Arrays;
import java.util.HashSet;
import java.util.List;
import java.util.Set;
import java.util.TreeSet;

/** The public face, and what a look at the source tells of ../shared/LANGUAGE.md. */
final class LanguageTest {
    private static final Check CHECK = new Check("LanguageTest");
    private static final Path SOURCE = Path.of("src/main/java/StepperHearts.java");
    private static final Set<String> FACE = Set.of(
        "int feed(int,int,int,int,int)", "int program(int)", "int fault()", "int where()", "int order(int,int)",
        "void input(int)", "int join(int,int)", "int part()", "int joined()", "int run(int,int)", "int told(int)",
        "int out(int) NoSuchElementException", "int pile(int) NoSuchElementException", "int cell(int)",
        "int did(int)", "int follows(int,int)", "int most()", "int traces()", "int trace(int)", "int cost(int,int)",
        "int cheapest(int)", "int gain(int)", "int better()", "int count(int)", "int trouble()");
    private static final String[] RULED_OUT = {"::", "finally", "synchronized", "assert ", "getClass", "hashCode",
        "getMessage", "printStackTrace", "System.out", "System.err", "System.exit", "Exact(", "Random", "Thread", "nanoTime",
        "currentTime", "static {", "package "};
    private static final Set<String> IMPORTS = Set.of("import java.util.ArrayList;", "import java.util.Arrays;",
        "import java.util.Iterator;", "import java.util.List;", "import java.util.NoSuchElementException;");
    // a field or element of the room's 7.3 million takes 4 bytes at least, and other objects share it
    private static final long MOST_BYTES_OF_AN_OBJECT = 4_000_000;

    public static void main(String[] args) throws IOException {
        face();
        members();
        source();
        room();
        CHECK.end();
    }

    private static String told(Method method) {
        StringBuilder told = new StringBuilder(method.getReturnType().getSimpleName());
        told.append(' ').append(method.getName()).append('(');
        List<String> types = new ArrayList<>();
        for (Class<?> type : method.getParameterTypes()) {
            types.add(type.getSimpleName());
        }
        told.append(String.join(",", types)).append(')');
        for (Class<?> thrown : method.getExceptionTypes()) {
            told.append(' ').append(thrown.getSimpleName());
        }
        return told.toString();
    }

    private static void face() {
        Set<String> met = new TreeSet<>();
        for (Method method : StepperHearts.class.getDeclaredMethods()) {
            if (method.isSynthetic()) {
                continue;
            }
            if (Modifier.isPrivate(method.getModifiers())) {
                continue;
            }
            CHECK.isTrue(method + " is public", Modifier.isPublic(method.getModifiers()));
            met.add(told(method));
        }
        Set<String> missing = new TreeSet<>(FACE);
        missing.removeAll(met);
        CHECK.isTrue("the face lacks nothing: " + missing, missing.isEmpty());
        met.removeAll(FACE);
        CHECK.isTrue("the face has no more: " + met, met.isEmpty());
        int modifiers = StepperHearts.class.getModifiers();
        CHECK.isTrue("public and final", Modifier.isPublic(modifiers) && Modifier.isFinal(modifiers));
        Constructor<?>[] constructors = StepperHearts.class.getDeclaredConstructors();
        CHECK.due("constructors", constructors.length, 1);
        CHECK.isTrue("it is public", Modifier.isPublic(constructors[0].getModifiers()));
        CHECK.due("it takes", constructors[0].getParameterCount(), 0);
    }

    private static void members() {
        Set<String> names = new HashSet<>();
        for (String method : FACE) {
            names.add(method.substring(method.indexOf(' ') + 1, method.indexOf('(')));
        }
        List<Class<?>> classes = new ArrayList<>(Arrays.asList(StepperHearts.class.getDeclaredClasses()));
        CHECK.isTrue("some twelve classes", classes.size() + 1 <= 12);
        for (Class<?> inside : classes) {
            CHECK.isTrue(inside + " is static", Modifier.isStatic(inside.getModifiers()));
            CHECK.isTrue(inside + " isn't public", !Modifier.isPublic(inside.getModifiers()));
        }
        classes.add(StepperHearts.class);
        for (Class<?> each : classes) {
            for (Method method : each.getDeclaredMethods()) {
                boolean isPrivate = Modifier.isPrivate(method.getModifiers());
                CHECK.isTrue(method + " has a name of its own", !isPrivate || !names.contains(method.getName()));
                CHECK.isTrue(method + " takes at most seven", method.getParameterCount() <= 7);
            }
            int fields = 0;
            for (Field field : each.getDeclaredFields()) {
                boolean isStatic = Modifier.isStatic(field.getModifiers());
                fields += isStatic ? 0 : 1;
                CHECK.isTrue(field + " is final", !isStatic || Modifier.isFinal(field.getModifiers()));
                boolean mayBePublic = field.getName().equals("NONE") || each.isEnum() || each != StepperHearts.class;
                CHECK.isTrue(field + " is private", mayBePublic || Modifier.isPrivate(field.getModifiers()));
            }
            CHECK.isTrue(each + " has some twenty fields", fields <= 20);
        }
    }

    private static void source() throws IOException {
        List<String> lines = Files.readAllLines(SOURCE);
        int methodFrom = -1;
        String methodEnd = "";
        for (int i = 0; i < lines.size(); i++) {
            String line = lines.get(i);
            String code = line.replaceAll("//.*", "").replaceAll("^\\s*/?\\*.*", "");
            for (String word : RULED_OUT) {
                CHECK.isTrue("line " + (i + 1) + " without " + word, !code.contains(word));
            }
            for (int k = 0; k < line.length(); k++) {
                CHECK.isTrue("line " + (i + 1) + " has plain signs", line.charAt(k) >= 32 && line.charAt(k) < 127);
            }
            if (code.startsWith("import ")) {
                CHECK.isTrue(code, IMPORTS.contains(code));
            }
            if (methodFrom < 0 && code.matches("    (    )?[A-Za-z].*\\) (throws \\w+ )?\\{")) {
                methodFrom = i;
                methodEnd = code.substring(0, code.indexOf(code.trim())) + "}";
            } else if (methodFrom >= 0 && code.equals(methodEnd)) {
                CHECK.isTrue("the method of line " + (methodFrom + 1) + " is short", i - methodFrom <= 60);
                methodFrom = -1;
            }
        }
    }

    /** Rule 12, and the room in which all calls of one run live: what an object's 512 dearest calls make is little. */
    private static void room() {
        ThreadMXBean threads = (ThreadMXBean) ManagementFactory.getThreadMXBean();
        String loop = "l: push 1; drop; jump l;";
        CHECK.told(loop).gain(5000);
        long ahead = threads.getCurrentThreadAllocatedBytes();
        StepperHearts x = CHECK.told(loop);
        for (int call = 0; call < 500; call++) {
            switch (call % 4) {
                case 0 -> x.gain(5000);
                case 1 -> x.cheapest(5000);
                case 2 -> x.run(4, 5000);
                default -> x.program(0);
            }
        }
        long made = threads.getCurrentThreadAllocatedBytes() - ahead;
        CHECK.isTrue("500 calls make " + made + " bytes", made <= MOST_BYTES_OF_AN_OBJECT);
    }
}
