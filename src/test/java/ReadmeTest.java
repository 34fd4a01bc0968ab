import java.io.IOException;
import java.lang.reflect.InvocationTargetException;
import java.lang.reflect.Method;
import java.lang.reflect.Modifier;
import java.nio.file.Files;
import java.nio.file.Path;
import java.util.Arrays;
import java.util.regex.Matcher;
import java.util.regex.Pattern;

/** The calls that README.md shows answer what it says behind them, and it leaves no call out. */
final class ReadmeTest {
    private static final Check CHECK = new Check("ReadmeTest");
    private static final Pattern CALL = Pattern.compile("x\\.(\\w+)\\((.*)\\); *// (-?\\d+|\\w+Exception)(: .*)?");
    private static final Pattern TEXT = Pattern.compile(": \"(.{20})\"");

    public static void main(String[] args) throws IOException, ReflectiveOperationException {
        String readme = Files.readString(Path.of("README.md"));
        leavesNoneOut(readme);
        showsAnswers(readme);
        CHECK.end();
    }

    private static void leavesNoneOut(String readme) {
        for (Method method : StepperHearts.class.getDeclaredMethods()) {
            if (Modifier.isPublic(method.getModifiers())) {
                String name = method.getName() + "(";
                boolean stands = readme.contains("`" + name) || readme.contains("x." + name);
                CHECK.isTrue(name + ") stands in README.md", stands);
            }
        }
    }

    private static void showsAnswers(String readme) throws ReflectiveOperationException {
        StepperHearts x = new StepperHearts();
        for (String line : readme.split("\n")) {
            Matcher call = CALL.matcher(line);
            boolean isCall = call.matches();
            CHECK.isTrue("a call has its answer behind it: " + line, isCall || !line.startsWith("x."));
            if (isCall) {
                Integer[] numbers = Arrays.stream(call.group(2).split(", *")).filter(number -> !number.isEmpty())
                    .map(Integer::valueOf).toArray(Integer[]::new);
                String got = answer(x, call.group(1), numbers);
                CHECK.isTrue(line + " (it answers " + got + ")", got.equals(call.group(3)));
                spells(call.group(4), numbers);
            }
        }
        CHECK.isTrue("README.md shows how a program is told", x.count(0) > 0);
        CHECK.isTrue("README.md shows how it is run", x.did(0) > 0);
    }

    private static String answer(StepperHearts x, String name, Integer[] numbers) throws ReflectiveOperationException {
        Class<?>[] types = new Class<?>[numbers.length];
        Arrays.fill(types, int.class);
        try {
            return String.valueOf(StepperHearts.class.getMethod(name, types).invoke(x, (Object[]) numbers));
        } catch (InvocationTargetException e) {
            return e.getCause().getClass().getSimpleName();
        }
    }

    /** A text of twenty signs behind feed() is what its numbers tell. */
    private static void spells(String remark, Integer[] numbers) {
        Matcher text = TEXT.matcher(remark == null ? "" : remark);
        if (text.matches() && numbers.length == 5) {
            for (int i = 0; i < 5; i++) {
                CHECK.due("number " + i + " of " + text.group(1), numbers[i], Check.four(text.group(1), 4 * i));
            }
        }
    }
}
