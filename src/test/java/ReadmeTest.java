import java.io.IOException;
import java.lang.reflect.Method;
import java.lang.reflect.Modifier;
import java.nio.file.Files;
import java.nio.file.Path;
import java.util.ArrayList;
import java.util.List;
import java.util.regex.Matcher;
import java.util.regex.Pattern;

/** README.md holds what it says: its examples answer what stands behind them, and its tables tell the whole face. */
public final class ReadmeTest {
    private static final Pattern EXAMPLE = Pattern.compile("permits\\.(\\w+)\\((.*?)\\); *// (-?\\w+): .+");
    private static final Pattern CALL = Pattern.compile("\\| `(\\w+)\\((.*?)\\)` \\| .+ \\| ?([A-Z_, ]*) ?\\|");
    private static final Pattern SETTING = Pattern.compile("\\| `(\\w+)` \\| (\\d+) to (\\d+) \\| (\\d+) \\| .+");
    private static final Pattern ERROR = Pattern.compile("\\| `(\\w+)` \\| (-\\d) \\| .+");
    private static final Pattern ORDER = Pattern.compile("\\| `(\\S+)` \\| `(\\w+)\\((.*?)\\)` \\|");
    private static final String ERROR_NAMES = "NO_SUCH, BAD_VALUE, BAD_TEXT, TOO_MANY, NOT_POSSIBLE";

    private static final Checks CHECKS = new Checks();

    public static void main(String[] args) throws Exception {
        List<String> lines = Files.readAllLines(Path.of("README.md"));
        examples(lines);
        calls(lines);
        settings(lines);
        errors(lines);
        orders(lines);
        tests(lines);
        CHECKS.end();
    }

    private static void examples(List<String> lines) throws Exception {
        SkipPermits permits = null;
        int found = 0;
        for (String line : lines) {
            if (line.equals("SkipPermits permits = new SkipPermits();")) {
                permits = new SkipPermits();
            } else if (line.startsWith("permits.")) {
                Matcher matcher = EXAMPLE.matcher(line);
                CHECKS.due("an answer stands behind " + line, matcher.matches() ? 1 : 0, 1);
                CHECKS.due(line, call(permits, matcher.group(1), matcher.group(2)), number(matcher.group(3)));
                found++;
            }
        }
        CHECKS.due("there are examples", found > 20 ? 1 : 0, 1);
    }

    private static int call(SkipPermits permits, String name, String arguments) throws Exception {
        Method method = methodOf(name);
        Class<?>[] types = method.getParameterTypes();
        Object[] values = new Object[types.length];
        String[] texts = arguments.isEmpty() ? new String[0] : arguments.split(", ");
        CHECKS.due("arguments of " + name, texts.length, types.length);
        for (int i = 0; i < types.length; i++) {
            long value = number(texts[i]);
            if (types[i] == long.class) {
                values[i] = value;
            } else {
                values[i] = (int) value;
            }
        }
        return (int) method.invoke(permits, values);
    }

    private static Method methodOf(String name) {
        for (Method method : SkipPermits.class.getDeclaredMethods()) {
            if (Modifier.isPublic(method.getModifiers()) && method.getName().equals(name)) {
                return method;
            }
        }
        throw new IllegalStateException("README.md tells of a method that is not there: " + name);
    }

    /** A number as Java writes it, or the name of a constant. */
    private static long number(String text) throws Exception {
        String name = text.replace("SkipPermits.", "");
        if (Character.isLetter(name.charAt(0))) {
            return SkipPermits.class.getField(name).getInt(null);
        }
        return Long.decode(name.replace("L", ""));
    }

    private static void calls(List<String> lines) {
        List<String> told = new ArrayList<>();
        for (String line : lines) {
            Matcher matcher = CALL.matcher(line);
            if (matcher.matches() && !ORDER.matcher(line).matches()) {
                String parameters = matcher.group(2);
                int count = parameters.isEmpty() ? 0 : parameters.split(", ").length;
                CHECKS.due("parameters in: " + line, count, methodOf(matcher.group(1)).getParameterCount());
                for (String error : matcher.group(3).trim().split(", ")) {
                    CHECKS.due("errors in: " + line, ERROR_NAMES.contains(error) ? 1 : 0, 1);
                }
                told.add(matcher.group(1));
            }
        }
        for (Method method : SkipPermits.class.getDeclaredMethods()) {
            if (Modifier.isPublic(method.getModifiers())) {
                String name = method.getName();
                CHECKS.due("rows of " + name, told.stream().filter(name::equals).count(), 1);
            }
        }
    }

    private static void settings(List<String> lines) throws Exception {
        int found = 0;
        for (String line : lines) {
            Matcher matcher = SETTING.matcher(line);
            if (matcher.matches()) {
                int setting = (int) number(matcher.group(1));
                int low = Integer.parseInt(matcher.group(2)), high = Integer.parseInt(matcher.group(3));
                SkipPermits x = new SkipPermits();
                CHECKS.due("first value in: " + line, x.count(setting), Integer.parseInt(matcher.group(4)));
                CHECKS.due("below: " + line, x.set(setting, low - 1), SkipPermits.BAD_VALUE);
                CHECKS.due("above: " + line, x.set(setting, high + 1), SkipPermits.BAD_VALUE);
                CHECKS.due("within: " + line, Math.min(x.set(setting, low), x.set(setting, high)) >= 0 ? 1 : 0, 1);
                found++;
            }
        }
        CHECKS.due("settings", found, 8);
    }

    private static void errors(List<String> lines) throws Exception {
        int found = 0;
        for (String line : lines) {
            Matcher matcher = ERROR.matcher(line);
            if (matcher.matches()) {
                CHECKS.due(line, number(matcher.group(1)), Integer.parseInt(matcher.group(2)));
                found++;
            }
        }
        CHECKS.due("errors", found, 5);
    }

    /** Each order, done by run() on one object and by its method on another one. */
    private static void orders(List<String> lines) throws Exception {
        int found = 0;
        for (String line : lines) {
            Matcher matcher = ORDER.matcher(line);
            if (matcher.matches()) {
                SkipPermits x = States.settled(), y = States.settled();
                x.wipe();
                y.wipe();
                Checks.write(x, matcher.group(1));
                CHECKS.due("run() of: " + line, x.run(), 1);
                call(y, matcher.group(2), matcher.group(3));
                CHECKS.due(line, Probe.all(x).equals(Probe.all(y)) ? 1 : 0, 1);
                found++;
            }
        }
        CHECKS.due("orders", found, 6);
    }

    private static void tests(List<String> lines) throws IOException {
        String page = String.join("\n", lines);
        try (var files = Files.list(Path.of("src/test/java"))) {
            files.map(file -> file.getFileName().toString().replace(".java", "")).sorted().forEach(name ->
                CHECKS.due("README.md tells of " + name, page.contains("`" + name + "`") ? 1 : 0, 1));
        }
    }
}
