import java.io.IOException;
import java.lang.reflect.Field;
import java.lang.reflect.Member;
import java.lang.reflect.Method;
import java.lang.reflect.Modifier;
import java.nio.file.Files;
import java.nio.file.Path;
import java.util.ArrayList;
import java.util.List;
import java.util.regex.Matcher;
import java.util.regex.Pattern;

/** The public face, and those rules of LANGUAGE.md that can be told from the class and its text. */
public final class FaceTest {
    private static final String[] METHODS = {"set(int,int)", "places(int,int)", "put(int,int,int,int)", "swap(int)",
        "take(int)", "permit(int,int)", "oil(int)", "growth(int,int)", "pass(int)", "run()", "skip(int,int)",
        "street(int,int)", "customer(int,int)", "count(int)", "untilFull(int)", "untilFine(int)", "cost(int,int)",
        "bestSwap(int,int,int)", "dearest()", "write(long)", "wipe()", "fault()", "undo()", "save(int)", "restore(int)"};
    private static final String[] CONSTANTS = {"NO_SUCH=-1", "BAD_VALUE=-2", "BAD_TEXT=-3", "TOO_MANY=-4",
        "NOT_POSSIBLE=-5", "NONE=-6", "HIRE=0", "PERMIT=1", "FINE=2", "DARK=3", "TIP=4", "TRIP=5", "OIL=6", "TRIPS=7"};
    private static final String FORBIDDEN =
        "\\b(throw|throws|try|catch|synchronized|assert|import|package|equals|hashCode|toString|\\w+Exact)\\b|->|::";

    private static final Checks CHECKS = new Checks();

    public static void main(String[] args) throws Exception {
        constants();
        methods();
        members();
        privateNames();
        sizes();
        words();
        CHECKS.end();
    }

    private static void constants() throws Exception {
        for (String constant : CONSTANTS) {
            String name = constant.substring(0, constant.indexOf('='));
            Field field = SkipPermits.class.getField(name);
            CHECKS.due("type of " + name, field.getType() == int.class ? 1 : 0, 1);
            CHECKS.due(name, field.getInt(null), Integer.parseInt(constant.substring(name.length() + 1)));
        }
        CHECKS.due("public fields", SkipPermits.class.getFields().length, CONSTANTS.length);
    }

    private static void methods() {
        List<String> found = new ArrayList<>();
        for (Method method : SkipPermits.class.getDeclaredMethods()) {
            if (Modifier.isPublic(method.getModifiers())) {
                StringBuilder types = new StringBuilder();
                for (Class<?> type : method.getParameterTypes()) {
                    types.append(types.length() == 0 ? "" : ",").append(type.getName());
                }
                found.add(method.getName() + "(" + types + ")");
                CHECKS.due("type of " + method.getName(), method.getReturnType() == int.class ? 1 : 0, 1);
            }
        }
        for (String method : METHODS) {
            CHECKS.due("there is " + method, found.contains(method) ? 1 : 0, 1);
        }
        CHECKS.due("public methods", found.size(), METHODS.length);
        CHECKS.due("public constructors", SkipPermits.class.getConstructors().length, 1);
        CHECKS.due("final", Modifier.isFinal(SkipPermits.class.getModifiers()) ? 1 : 0, 1);
    }

    private static void members() {
        List<Member> all = new ArrayList<>(List.of(SkipPermits.class.getDeclaredFields()));
        all.addAll(List.of(SkipPermits.class.getDeclaredMethods()));
        for (Member member : all) {
            int flags = member.getModifiers();
            boolean fine = member.isSynthetic() || Modifier.isPublic(flags) || Modifier.isPrivate(flags);
            CHECKS.due("public or private: " + member.getName(), fine ? 1 : 0, 1);
        }
        for (Class<?> inside : SkipPermits.class.getDeclaredClasses()) {
            CHECKS.due("static: " + inside.getName(), Modifier.isStatic(inside.getModifiers()) ? 1 : 0, 1);
            for (Field field : inside.getDeclaredFields()) {
                int flags = field.getModifiers();
                boolean fine = !Modifier.isStatic(flags) || Modifier.isFinal(flags);
                CHECKS.due("no static state: " + field.getName(), fine ? 1 : 0, 1);
            }
        }
    }

    private static List<Class<?>> classes() {
        List<Class<?>> all = new ArrayList<>(List.of(SkipPermits.class.getDeclaredClasses()));
        all.add(SkipPermits.class);
        return all;
    }

    private static void privateNames() {
        for (Class<?> each : classes()) {
            for (Method method : each.getDeclaredMethods()) {
                boolean isPublic = Modifier.isPublic(method.getModifiers());
                boolean named = List.of(METHODS).stream().anyMatch(face -> face.startsWith(method.getName() + "("));
                CHECKS.due("public by name and by right: " + method.getName(), isPublic == named ? 1 : 0, 1);
            }
        }
    }

    private static void sizes() {
        CHECKS.due("twelve classes at most", classes().size() <= 12 ? 1 : 0, 1);
        for (Class<?> each : classes()) {
            long fields = List.of(each.getDeclaredFields()).stream()
                .filter(field -> !Modifier.isStatic(field.getModifiers())).count();
            CHECKS.due("twenty fields at most: " + each.getName(), fields <= 20 ? 1 : 0, 1);
            for (Method method : each.getDeclaredMethods()) {
                CHECKS.due("seven parameters at most: " + method.getName(), method.getParameterCount() <= 7 ? 1 : 0, 1);
            }
        }
    }

    private static void words() throws IOException {
        String text = Files.readString(Path.of("src/main/java/SkipPermits.java"));
        String code = text.replaceAll("(?s)/\\*.*?\\*/", "").replaceAll("//[^\n]*", "");
        Matcher matcher = Pattern.compile(FORBIDDEN).matcher(code);
        while (matcher.find()) {
            CHECKS.due("no '" + matcher.group() + "' in the program", 1, 0);
        }
        CHECKS.due("signs above 126", text.chars().filter(sign -> sign > 126).count(), 0);
    }
}
