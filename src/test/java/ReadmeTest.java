import java.lang.reflect.Field;
import java.lang.reflect.Method;
import java.lang.reflect.Modifier;
import java.nio.file.DirectoryStream;
import java.nio.file.Files;
import java.nio.file.Path;
import java.util.regex.Matcher;
import java.util.regex.Pattern;

/** README.md: its examples answer what stands behind them, and it names all there is to be named. */
public final class ReadmeTest {
    private static final Pattern BLOCK = Pattern.compile("```java\n(.*?)```", Pattern.DOTALL);
    private static final Pattern CALL =
        Pattern.compile("pilot\\.(\\w+)\\(([-\\d, ]*)\\);(?: +// (-?\\d+|true|false)(?:: .+)?)?");
    private static final String MADE = "FencePilot pilot = new FencePilot();";

    public static void main(String[] args) throws Exception {
        Checks checks = new Checks();
        Path root = Path.of(args[0]).toAbsolutePath().resolve("../../../..").normalize();
        String text = Files.readString(root.resolve("README.md"));
        examples(checks, text);
        callsAreNamed(checks, text);
        constantsAreNamed(checks, text);
        testsAreNamed(checks, text, root.resolve("src/test/java"));
        checks.yes("the tests are run by .ci/run", text.contains("```sh\n.ci/run\n```"));
        checks.finish();
    }

    private static void examples(Checks checks, String text) throws Exception {
        FencePilot pilot = null;
        int calls = 0;
        Matcher block = BLOCK.matcher(text);
        while (block.find()) {
            for (String line : block.group(1).split("\n")) {
                if (line.equals(MADE)) {
                    pilot = new FencePilot();
                } else {
                    example(checks, pilot, line);
                    calls++;
                }
            }
        }
        checks.yes("there are examples", calls > 0);
    }

    private static void example(Checks checks, FencePilot pilot, String line) throws Exception {
        Matcher call = CALL.matcher(line);
        boolean plain = pilot != null && call.matches();
        checks.yes("a call of an object that was made: " + line, plain);
        if (plain) {
            Object answer = call(pilot, call.group(1), call.group(2));
            String got = answer == null ? "nothing" : answer.toString();
            String told = call.group(3) == null ? "nothing" : call.group(3);
            checks.yes(line + " answered " + got, got.equals(told));
        }
    }

    private static Object call(FencePilot pilot, String name, String listed) throws Exception {
        String[] numbers = listed.isBlank() ? new String[0] : listed.split(", ");
        Object[] values = new Object[numbers.length];
        Class<?>[] types = new Class<?>[numbers.length];
        for (int i = 0; i < numbers.length; i++) {
            values[i] = Integer.valueOf(numbers[i]);
            types[i] = int.class;
        }
        return FencePilot.class.getMethod(name, types).invoke(pilot, values);
    }

    private static void callsAreNamed(Checks checks, String text) {
        for (Method method : FencePilot.class.getDeclaredMethods()) {
            if (Modifier.isPublic(method.getModifiers())) {
                checks.yes(method.getName() + " has a row", text.contains("\n| `" + method.getName() + "("));
            }
        }
    }

    private static void constantsAreNamed(Checks checks, String text) throws Exception {
        for (Field field : FencePilot.class.getDeclaredFields()) {
            if (Modifier.isPublic(field.getModifiers())) {
                String row = "\n| `" + field.getName() + "` " + field.get(null) + " |";
                checks.yes(field.getName() + " has a row with its number", text.contains(row));
            }
        }
    }

    private static void testsAreNamed(Checks checks, String text, Path own) throws Exception {
        int count = 0;
        try (DirectoryStream<Path> tests = Files.newDirectoryStream(own, "*Test.java")) {
            for (Path test : tests) {
                String name = test.getFileName().toString().replace(".java", "");
                checks.yes(name + " is told of", text.contains("`" + name + "`"));
                count++;
            }
        }
        checks.yes("tests were found", count > 0);
    }
}
