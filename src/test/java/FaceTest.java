import java.io.IOException;
import java.lang.reflect.Constructor;
import java.lang.reflect.Field;
import java.lang.reflect.Method;
import java.lang.reflect.Modifier;
import java.nio.file.Files;
import java.nio.file.Path;
import java.util.Set;
import java.util.TreeSet;
import java.util.regex.Matcher;
import java.util.regex.Pattern;

/** The document's face, and those rules of LANGUAGE.md that a glance at the program can check. */
final class FaceTest {
    private static final String[] METHODS = {
        "worker(1)", "task(0)", "dropWorker(1)", "dropTask(1)", "cost(3)", "bar(2)", "idle(2)", "times(2)", "costOf(2)",
        "total(0)", "taskOf(1)", "workerOf(1)", "totalFor(1)", "price(2)", "workerIs(2)", "proof(0)", "pairOf(3)",
        "room(1)", "dearest(1)", "count(1)", "undo(0)", "type(1)", "clearText(0)", "fault(1)", "read(0)"
    };
    private static final Set<String> CONSTANTS =
        Set.of("INVALID_ARGUMENT", "NOT_POSSIBLE", "LIMIT_REACHED", "NOT_FOUND");
    private static final String[] NOT_ALLOWED = {
        "\\bthrow\\b", "\\bthrows\\b", "\\btry\\b", "\\bcatch\\b", "\\bsynchronized\\b", "\\bassert\\b", "->", "::",
        "Exact\\b", "\\bpackage\\b", "\\bimport\\b", "\\bObject\\b", "\\bSystem\\.(?!arraycopy)", "\\bthis\\(",
        "\\bequals\\b", "\\bhashCode\\b", "\\btoString\\b", "@", "[^\\x00-\\x7f]"
    };

    public static void main(String[] args) throws IOException {
        Checks checks = new Checks();
        constants(checks);
        members(checks);
        namesAndClassesInside(checks);
        source(checks, Files.readString(Path.of(args[0])));
        checks.finish("FaceTest");
    }

    private static void constants(Checks checks) {
        checks.due("INVALID_ARGUMENT", PricedPairs.INVALID_ARGUMENT, -1);
        checks.due("NOT_POSSIBLE", PricedPairs.NOT_POSSIBLE, -2);
        checks.due("LIMIT_REACHED", PricedPairs.LIMIT_REACHED, -3);
        checks.due("NOT_FOUND", PricedPairs.NOT_FOUND, -4);
        for (Field field : PricedPairs.class.getDeclaredFields()) {
            boolean constant = CONSTANTS.contains(field.getName());
            int flags = field.getModifiers();
            boolean asDue = constant ? Modifier.isPublic(flags) : Modifier.isPrivate(flags);
            checks.due(field + " is public, or it is private", asDue);
            checks.due(field + " is final", Modifier.isFinal(flags));
        }
    }

    private static void members(Checks checks) {
        Set<String> due = new TreeSet<>(Set.of(METHODS));
        Set<String> found = new TreeSet<>();
        checks.due("the class is public and final", PricedPairs.class.getModifiers(), Modifier.PUBLIC | Modifier.FINAL);
        for (Method method : PricedPairs.class.getDeclaredMethods()) {
            if (!Modifier.isPrivate(method.getModifiers())) {
                found.add(method.getName() + "(" + method.getParameterCount() + ")");
                checks.due(method + " is public", method.getModifiers(), Modifier.PUBLIC);
                checks.due(method + " answers an int", method.getReturnType() == int.class);
                for (Class<?> type : method.getParameterTypes()) {
                    checks.due(method + " takes ints", type == int.class);
                }
            }
        }
        checks.due("the methods " + found + " are those that are due", found.equals(due));
        Constructor<?>[] constructors = PricedPairs.class.getDeclaredConstructors();
        checks.due("constructors", constructors.length, 1);
        checks.due("the constructor is public", constructors[0].getModifiers(), Modifier.PUBLIC);
        checks.due("the constructor takes nothing", constructors[0].getParameterCount(), 0);
    }

    private static void namesAndClassesInside(Checks checks) {
        Set<String> faceNames = new TreeSet<>();
        for (String method : METHODS) {
            faceNames.add(method.substring(0, method.indexOf('(')));
        }
        for (Method method : PricedPairs.class.getDeclaredMethods()) {
            boolean isPrivate = Modifier.isPrivate(method.getModifiers());
            checks.due(method + " has a name of its own", !isPrivate || !faceNames.contains(method.getName()));
        }
        Class<?>[] inside = PricedPairs.class.getDeclaredClasses();
        checks.due("at most 12 classes", inside.length < 12);
        for (Class<?> kind : inside) {
            checks.due(kind + " is static", Modifier.isStatic(kind.getModifiers()));
            checks.due(kind + " isn't public", !Modifier.isPublic(kind.getModifiers()));
            checks.due(kind + " has at most 20 fields", kind.getDeclaredFields().length <= 20);
            for (Method method : kind.getDeclaredMethods()) {
                checks.due(method + " has a name of its own", !faceNames.contains(method.getName()));
            }
        }
    }

    private static void source(Checks checks, String source) {
        String code = Pattern.compile("/\\*.*?\\*/", Pattern.DOTALL).matcher(source).replaceAll("");
        code = Pattern.compile("//[^\n]*").matcher(code).replaceAll("");
        for (String pattern : NOT_ALLOWED) {
            Matcher matcher = Pattern.compile(pattern).matcher(code);
            checks.due("no " + pattern + " in the program", !matcher.find());
        }
    }

    private FaceTest() {
    }
}
