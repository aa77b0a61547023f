import java.lang.reflect.Constructor;
import java.lang.reflect.Field;
import java.lang.reflect.Method;
import java.lang.reflect.Modifier;
import java.util.Set;
import java.util.TreeSet;

/** The document's face, and that nothing besides it can be seen from outside (rule 1 of the language). */
final class FaceTest {
    private static final String[] METHODS = {
        "worker(1)", "task(0)", "dropWorker(1)", "dropTask(1)", "cost(3)", "bar(2)", "idle(2)", "times(2)", "costOf(2)",
        "total(0)", "taskOf(1)", "workerOf(1)", "totalFor(1)", "price(2)", "workerIs(2)", "proof(0)", "pairOf(3)",
        "room(1)", "dearest(1)", "count(1)", "undo(0)", "type(1)", "clearText(0)", "fault(1)", "read(0)"
    };
    private static final Set<String> CONSTANTS =
        Set.of("INVALID_ARGUMENT", "NOT_POSSIBLE", "LIMIT_REACHED", "NOT_FOUND");

    public static void main(String[] args) {
        Checks checks = new Checks();
        constants(checks);
        members(checks);
        namesAndClassesInside(checks);
        checks.finish("FaceTest");
    }

    private static void constants(Checks checks) {
        checks.due("INVALID_ARGUMENT", PricedPairs.INVALID_ARGUMENT, -1);
        checks.due("NOT_POSSIBLE", PricedPairs.NOT_POSSIBLE, -2);
        checks.due("LIMIT_REACHED", PricedPairs.LIMIT_REACHED, -3);
        checks.due("NOT_FOUND", PricedPairs.NOT_FOUND, -4);
        for (Field field : PricedPairs.class.getDeclaredFields()) {
            boolean constant = CONSTANTS.contains(field.getName());
            int flags = field.getModifiers();
            boolean asDue = constant ? Modifier.isPublic(flags) : Modifier.isPrivate(flags);
            checks.due(field + " is public, or it is private", asDue);
            checks.due(field + " is final", Modifier.isFinal(flags));
        }
    }

    private static void members(Checks checks) {
        Set<String> due = new TreeSet<>(Set.of(METHODS));
        Set<String> found = new TreeSet<>();
        checks.due("the class is public and final", PricedPairs.class.getModifiers(), Modifier.PUBLIC | Modifier.FINAL);
        for (Method method : PricedPairs.class.getDeclaredMethods()) {
            if (!Modifier.isPrivate(method.getModifiers())) {
                found.add(method.getName() + "(" + method.getParameterCount() + ")");
                checks.due(method + " is public", method.getModifiers(), Modifier.PUBLIC);
                checks.due(method + " answers an int", method.getReturnType() == int.class);
                for (Class<?> type : method.getParameterTypes()) {
                    checks.due(method + " takes ints", type == int.class);
                }
            }
        }
        checks.due("the methods " + found + " are those that are due", found.equals(due));
        Constructor<?>[] constructors = PricedPairs.class.getDeclaredConstructors();
        checks.due("constructors", constructors.length, 1);
        checks.due("the constructor is public", constructors[0].getModifiers(), Modifier.PUBLIC);
        checks.due("the constructor takes nothing", constructors[0].getParameterCount(), 0);
    }

    private static void namesAndClassesInside(Checks checks) {
        Set<String> faceNames = new TreeSet<>();
        for (String method : METHODS) {
            faceNames.add(method.substring(0, method.indexOf('(')));
        }
        for (Method method : PricedPairs.class.getDeclaredMethods()) {
            boolean isPrivate = Modifier.isPrivate(method.getModifiers());
            checks.due(method + " has a name of its own", !isPrivate || !faceNames.contains(method.getName()));
        }
        for (Class<?> kind : PricedPairs.class.getDeclaredClasses()) {
            for (Method method : kind.getDeclaredMethods()) {
                checks.due(method + " has a name of its own", !faceNames.contains(method.getName()));
            }
        }
    }

    private FaceTest() {
    }
}
