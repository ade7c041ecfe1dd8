import java.lang.reflect.Field;
import java.lang.reflect.Method;
import java.lang.reflect.Modifier;
import java.nio.file.Files;
import java.nio.file.Path;
import java.util.regex.Matcher;
import java.util.regex.Pattern;

/** The rules of LANGUAGE.md that can be read off the source and the compiled classes. */
public final class RulesTest {
    private static final String[] FORBIDDEN = {
        "\\bimport\\b", "\\bpackage\\b", "\\bthrows?\\b", "\\btry\\b", "\\bcatch\\b",
        "\\bsynchronized\\b", "\\bassert\\b", "->", "::", "\\bdouble\\b", "\\bfloat\\b",
        "\\bpublic static (?!final)", "\\bprotected\\b"};
    private static final String LIBRARY = "Math\\.(max|min|floorDiv)|System\\.arraycopy";
    private static final int MOST_PARAMETERS = 7;
    private static final int MOST_LINES = 60;
    private static final int MOST_FIELDS = 20;
    private static final int MOST_CLASSES = 12;

    public static void main(String[] args) throws Exception {
        Checks checks = new Checks();
        String source = Files.readString(Path.of(args[0]));
        String code = source.replaceAll("(?s)/\\*.*?\\*/", "").replaceAll("//[^\n]*", "");
        for (String pattern : FORBIDDEN) {
            checks.no("the source has " + pattern, Pattern.compile(pattern).matcher(code).find());
        }
        libraryIsListed(checks, code);
        objectsAreMadeOnce(checks, code);
        checks.yes("characters 0 to 255 alone", source.chars().allMatch(c -> c < 256));
        checks.yes("short methods", longestMethod(code) <= MOST_LINES);
        checks.yes("few classes", FencePilot.class.getDeclaredClasses().length < MOST_CLASSES);
        classRules(checks, FencePilot.class);
        for (Class<?> inside : FencePilot.class.getDeclaredClasses()) {
            checks.yes(inside + " is static", Modifier.isStatic(inside.getModifiers()));
            classRules(checks, inside);
        }
        checks.finish();
    }

    private static void libraryIsListed(Checks checks, String code) {
        Matcher use = Pattern.compile("\\b[A-Z]\\w*\\.\\w+").matcher(code);
        while (use.find()) {
            checks.yes(use.group() + " is listed", use.group().matches(LIBRARY));
        }
    }

    /** What fills a final field is made in a constructor, so no later call takes of the run's room. */
    private static void objectsAreMadeOnce(Checks checks, String code) {
        Matcher made = Pattern.compile("([^\n]*)\\bnew\\b[^\n]*").matcher(code);
        while (made.find()) {
            String field = made.group(1).trim().replaceAll(" =$", "");
            boolean kept = Pattern.compile("private final \\S+ " + Pattern.quote(field) + ";").matcher(code).find();
            checks.yes("made for a final field: " + made.group().trim(), kept);
        }
    }

    private static int longestMethod(String code) {
        int longest = 0;
        int began = 0;
        String[] lines = code.split("\n");
        for (int i = 0; i < lines.length; i++) {
            if (lines[i].matches("( {4}| {8})\\S.*\\(.*\\{")) {
                began = i;
            } else if (lines[i].matches("( {4}| {8})\\}")) {
                longest = Math.max(longest, i - began);
            }
        }
        return longest;
    }

    private static void classRules(Checks checks, Class<?> type) {
        int fields = 0;
        for (Field field : type.getDeclaredFields()) {
            int modifiers = field.getModifiers();
            fields += Modifier.isStatic(modifiers) ? 0 : 1;
            checks.yes(field + " is final if static", !Modifier.isStatic(modifiers) || Modifier.isFinal(modifiers));
        }
        checks.yes(type + " has few fields", fields <= MOST_FIELDS);
        for (Method method : type.getDeclaredMethods()) {
            checks.yes(method + " has few parameters", method.getParameterCount() <= MOST_PARAMETERS);
        }
    }
}
