import java.util.ArrayList;
import java.util.List;

/**
 * Every error of every method, every two errors that apply at once, and that a refused call changes nothing: two objects
 * get the same calls, but one of them the refused call too; then both must show the same, the history and the text too.
 */
final class RefusedCallsTest {
    private static final String INVALID = "INVALID_ARGUMENT";
    private static final String NOT_POSSIBLE = "NOT_POSSIBLE";
    private static final String LIMIT = "LIMIT_REACHED";
    private static final String NOT_FOUND = "NOT_FOUND";
    private static final String LEAST_INT = "-2147483648";
    private static final String GREATEST_INT = "2147483647";

    private static final Checks CHECKS = new Checks();
    private static final Runs RUNS = new Runs(CHECKS);

    /** Neither workers nor tasks, history or text. */
    private static final String[] NEW = {};
    /** Three workers and two tasks, the last worker idle and a pair barred; a full history, a text without a fault. */
    private static final String[] COMMON = {
        "worker(1)", "table 3,8/20;4,x/15;9,9/1", "idle(2, 3)", "cost(2, 1, 9)", "idle(2, 2)", "type 7,8/9;1,2/3"
    };
    /** The same, but fewer states than the history could have, and a text with a fault. */
    private static final String[] FAULTY = {"table 3,8/20;4,x/15;9,9/2", "idle(1, 14)", "type 7,8/9;1/3"};
    /** Seven workers and tasks; a text of 80 characters without a fault. */
    private static final String[] FULL = {
        "square 7 20 30", "bar(6, 5)", "type 0,0,0,0,0,0,0/5;1,0,0,0,0,0,0/5;2,0,0,0,0,0,0/5;3,0,0,0,0,0,0/5;40,0,0,0,0,0,9/5"
    };
    /** Seven workers and tasks that all are barred from; an empty text. */
    private static final String[] BARRED = {"7x worker(9)", "7x task()"};
    /** Workers alone. */
    private static final String[] NO_TASKS = {"worker(4)", "worker(5)", "idle(0, 3)", "type 1"};
    /** Tasks alone. */
    private static final String[] NO_WORKERS = {"task()", "task()", "type 1/2"};
    /** A history that was emptied by undo. */
    private static final String[] UNDONE = {"worker(4)", "task()", "undo()", "undo()", "type 1/2"};

    public static void main(String[] args) {
        changes();
        times();
        questionsOfOne();
        questionsOfPairs();
        totalsOfSome();
        whatIsAsked();
        undo();
        texts();
        twoErrorsAtOnce();
        takenCallsAreNoticed();
        CHECKS.finish("RefusedCallsTest");
    }

    private static void refused(String[] setup, String error, String... calls) {
        List<String> before = views(setup, "");
        for (String call : calls) {
            CHECKS.due(call + " is refused: both objects show the same", before.equals(views(setup, call + " = " + error)));
        }
    }

    /** A new object for each way of looking, as looking may take many calls, and changes what it looks at. */
    private static List<String> views(String[] setup, String refused) {
        List<String> views = new ArrayList<>();
        views.add(questions(made(setup, refused)));
        views.add(history(made(setup, refused)));
        views.add(text(made(setup, refused)));
        views.add(growth(made(setup, refused)));
        return views;
    }

    private static Script made(String[] setup, String refused) {
        Script script = RUNS.due("a call is refused", setup);
        if (!refused.isEmpty()) {
            String[] sides = refused.split(" = ");
            int due = sides[1].equals(INVALID) ? -1 : sides[1].equals(NOT_POSSIBLE) ? -2 : sides[1].equals(LIMIT) ? -3 : -4;
            CHECKS.due(sides[0], script.call(sides[0]), due);
        }
        return script;
    }

    private static String questions(Script script) {
        StringBuilder shown = new StringBuilder(table(script));
        ask(shown, script, "total()", "proof()", "dearest(0)", "dearest(1)", "dearest(2)", "totalFor(0)", "totalFor(1)", "totalFor(5)");
        int workers = script.call("count(0)");
        int tasks = script.call("count(1)");
        for (int t = 0; t < tasks; t++) {
            ask(shown, script, "workerOf(" + t + ")", "price(" + t + ", 0)", "price(" + t + ", 1)");
        }
        for (int w = 0; w < workers; w++) {
            ask(shown, script, "taskOf(" + w + ")", "room(" + w + ")", "workerIs(" + w + ", 0)", "workerIs(" + w + ", 1)",
                "workerIs(" + w + ", 2)", "workerIs(" + w + ", 3)");
            for (int t = -1; t < tasks; t++) {
                ask(shown, script, "pairOf(" + w + ", " + t + ", 0)", "pairOf(" + w + ", " + t + ", 1)", "pairOf(" + w + ", " + t + ", 2)");
            }
        }
        return shown.toString();
    }

    private static String history(Script script) {
        StringBuilder shown = new StringBuilder();
        for (int i = 0; i < 5; i++) {
            ask(shown, script, "undo()", "total()");
            shown.append(table(script));
        }
        return shown.toString();
    }

    private static String text(Script script) {
        StringBuilder shown = new StringBuilder();
        ask(shown, script, "count(8)", "fault(0)", "fault(1)", "read()");
        shown.append(table(script));
        ask(shown, script, "type(55)", "fault(0)", "fault(1)", "clearText()", "count(8)");
        return shown.toString();
    }

    private static String growth(Script script) {
        StringBuilder shown = new StringBuilder();
        ask(shown, script, "worker(8)", "task()", "count(7)", "dropWorker(0)", "dropTask(0)", "worker(8)", "task()", "total()");
        shown.append(table(script));
        return shown.toString();
    }

    private static String table(Script script) {
        StringBuilder shown = new StringBuilder();
        ask(shown, script, "count(0)", "count(1)", "count(2)", "count(3)", "count(4)", "count(5)", "count(6)", "count(7)", "count(8)");
        int workers = script.call("count(0)");
        int tasks = script.call("count(1)");
        for (int w = 0; w < workers; w++) {
            for (int t = -1; t < tasks; t++) {
                ask(shown, script, "costOf(" + w + ", " + t + ")");
            }
        }
        return shown.toString();
    }

    private static void ask(StringBuilder shown, Script script, String... calls) {
        for (String call : calls) {
            shown.append(call).append(": ").append(script.call(call)).append('\n');
        }
    }

    private static void changes() {
        refused(COMMON, INVALID, "worker(-1)", "worker(10000)", "worker(" + LEAST_INT + ")", "worker(" + GREATEST_INT + ")");
        refused(NEW, INVALID, "worker(-1)", "worker(10000)");
        refused(FULL, LIMIT, "worker(0)", "worker(9999)", "task()");
        refused(BARRED, LIMIT, "worker(5)", "task()");
        refused(NEW, INVALID, "dropWorker(0)", "dropWorker(-1)", "dropTask(0)", "dropTask(-1)");
        refused(NO_WORKERS, INVALID, "dropWorker(0)", "cost(0, 0, 5)", "bar(0, 0)", "idle(0, 5)", "times(0, 1)", "dropTask(2)");
        refused(NO_TASKS, INVALID, "dropTask(0)", "cost(0, 0, 5)", "bar(0, 0)", "dropWorker(2)", "cost(0, -1, 5)", "bar(0, -1)");
        refused(COMMON, INVALID, "dropWorker(3)", "dropWorker(-1)", "dropWorker(" + LEAST_INT + ")", "dropWorker(" + GREATEST_INT + ")");
        refused(COMMON, INVALID, "dropTask(2)", "dropTask(-1)", "dropTask(" + LEAST_INT + ")", "dropTask(" + GREATEST_INT + ")");
        refused(FULL, INVALID, "dropWorker(7)", "dropTask(7)", "cost(7, 6, 5)", "cost(6, 7, 5)", "bar(7, 6)", "bar(6, 7)", "idle(7, 5)");
        refused(COMMON, INVALID, "cost(3, 0, 5)", "cost(-1, 0, 5)", "cost(0, 2, 5)", "cost(0, -1, 5)", "cost(0, 0, -1)", "cost(0, 0, 10000)",
            "cost(" + LEAST_INT + ", 0, 5)", "cost(0, " + GREATEST_INT + ", 5)", "cost(0, 0, " + LEAST_INT + ")",
            "cost(0, 0, " + GREATEST_INT + ")");
        refused(COMMON, INVALID, "bar(3, 0)", "bar(-1, 0)", "bar(0, 2)", "bar(0, -1)", "bar(" + GREATEST_INT + ", 0)",
            "bar(0, " + LEAST_INT + ")");
        refused(COMMON, NOT_POSSIBLE, "bar(1, 1)");
        refused(FULL, NOT_POSSIBLE, "bar(6, 5)");
        refused(BARRED, NOT_POSSIBLE, "bar(0, 0)", "bar(6, 6)");
        refused(COMMON, INVALID, "idle(3, 5)", "idle(-1, 5)", "idle(0, -1)", "idle(0, 10000)", "idle(" + LEAST_INT + ", 5)",
            "idle(0, " + GREATEST_INT + ")");
    }

    private static void times() {
        refused(COMMON, INVALID, "times(3, 1)", "times(-1, 1)", "times(0, -1)", "times(0, 2000000001)", "times(0, " + LEAST_INT + ")",
            "times(0, " + GREATEST_INT + ")", "times(" + LEAST_INT + ", 1)", "times(" + GREATEST_INT + ", 1)");
        refused(COMMON, LIMIT, "times(0, 500)", "times(0, 2000000000)", "times(1, 667)", "times(2, 1112)");
        refused(FULL, LIMIT, "times(6, 334)", "times(0, 2000000000)");
        refused(BARRED, LIMIT, "times(6, 1112)");
    }

    private static void questionsOfOne() {
        String[] calls = {"taskOf(#)", "room(#)", "workerIs(#, 0)", "workerIs(#, 3)", "idle(#, 0)", "times(#, 0)", "dropWorker(#)"};
        for (String call : calls) {
            refused(COMMON, INVALID, call.replace("#", "3"), call.replace("#", "-1"), call.replace("#", LEAST_INT),
                call.replace("#", GREATEST_INT));
            refused(FULL, INVALID, call.replace("#", "7"));
            refused(NEW, INVALID, call.replace("#", "0"));
        }
        refused(COMMON, NOT_FOUND, "taskOf(2)", "room(2)");
        refused(BARRED, NOT_FOUND, "taskOf(0)", "room(6)", "workerOf(0)", "workerOf(6)");
        refused(NO_TASKS, NOT_FOUND, "taskOf(0)", "room(1)");
        refused(NO_WORKERS, NOT_FOUND, "workerOf(0)", "workerOf(1)");
        for (String call : new String[] {"workerOf(#)", "price(#, 0)", "price(#, 1)"}) {
            refused(COMMON, INVALID, call.replace("#", "2"), call.replace("#", "-1"), call.replace("#", LEAST_INT),
                call.replace("#", GREATEST_INT));
            refused(FULL, INVALID, call.replace("#", "7"));
            refused(NEW, INVALID, call.replace("#", "0"));
        }
    }

    private static void questionsOfPairs() {
        refused(COMMON, INVALID, "costOf(3, 0)", "costOf(-1, 0)", "costOf(-1, -1)", "costOf(0, 2)", "costOf(0, -2)",
            "costOf(0, " + LEAST_INT + ")", "costOf(0, " + GREATEST_INT + ")");
        refused(COMMON, NOT_FOUND, "costOf(1, 1)", "pairOf(1, 1, 0)", "pairOf(1, 1, 1)", "pairOf(1, 1, 2)");
        refused(COMMON, INVALID, "pairOf(3, 0, 0)", "pairOf(-1, 0, 0)", "pairOf(0, 2, 0)", "pairOf(0, -2, 0)", "pairOf(0, 0, -1)",
            "pairOf(0, 0, 3)", "pairOf(0, -1, 3)", "pairOf(0, -1, -1)", "pairOf(3, -1, 0)", "pairOf(0, 0, " + LEAST_INT + ")",
            "pairOf(0, " + GREATEST_INT + ", 0)");
        refused(BARRED, NOT_FOUND, "costOf(6, 6)", "pairOf(6, 6, 0)");
        refused(FULL, NOT_FOUND, "costOf(6, 5)", "pairOf(6, 5, 2)");
        refused(NO_TASKS, INVALID, "costOf(0, 0)", "pairOf(0, 0, 0)");
        refused(NO_WORKERS, INVALID, "costOf(0, 0)", "costOf(0, -1)", "pairOf(0, -1, 0)");
    }

    private static void totalsOfSome() {
        refused(COMMON, INVALID, "totalFor(8)", "totalFor(15)", "totalFor(-1)", "totalFor(" + LEAST_INT + ")", "totalFor(" + GREATEST_INT + ")");
        refused(NEW, INVALID, "totalFor(1)", "totalFor(-1)");
        refused(FULL, INVALID, "totalFor(128)", "totalFor(255)", "totalFor(" + LEAST_INT + ")");
    }

    private static void whatIsAsked() {
        String[] calls = {"price(0, #)", "workerIs(0, #)", "dearest(#)", "count(#)", "fault(#)"};
        for (String call : calls) {
            refused(COMMON, INVALID, call.replace("#", "-1"), call.replace("#", LEAST_INT), call.replace("#", GREATEST_INT));
        }
        refused(COMMON, INVALID, "price(0, 2)", "workerIs(0, 4)", "dearest(3)", "count(9)", "fault(2)");
        refused(BARRED, NOT_FOUND, "dearest(0)", "dearest(1)", "dearest(2)");
        refused(NEW, NOT_FOUND, "dearest(0)", "dearest(1)", "dearest(2)");
        refused(COMMON, NOT_FOUND, "fault(0)", "fault(1)");
        refused(FULL, NOT_FOUND, "fault(0)", "fault(1)");
    }

    private static void undo() {
        refused(NEW, NOT_POSSIBLE, "undo()");
        refused(UNDONE, NOT_POSSIBLE, "undo()");
    }

    private static void texts() {
        refused(COMMON, INVALID, "type(31)", "type(127)", "type(0)", "type(-1)", "type(" + LEAST_INT + ")", "type(" + GREATEST_INT + ")");
        refused(FULL, LIMIT, "type(32)", "type(49)", "type(126)");
        refused(FAULTY, NOT_POSSIBLE, "read()");
        refused(NO_TASKS, NOT_POSSIBLE, "read()");
        refused(BARRED, NOT_POSSIBLE, "read()");
        refused(NEW, NOT_POSSIBLE, "read()");
    }

    private static void twoErrorsAtOnce() {
        refused(FULL, INVALID, "worker(-1)", "worker(10000)", "worker(" + LEAST_INT + ")", "worker(" + GREATEST_INT + ")");
        refused(COMMON, INVALID, "times(3, 2000000000)", "times(-1, 2000000000)", "times(0, 2000000001)", "times(0, " + GREATEST_INT + ")",
            "times(0, -2000000000)", "times(0, " + LEAST_INT + ")");
        refused(FULL, INVALID, "type(31)", "type(127)", "type(" + LEAST_INT + ")", "type(" + GREATEST_INT + ")");
        refused(BARRED, INVALID, "bar(7, 0)", "bar(-1, 0)", "bar(0, 7)", "bar(0, -1)", "bar(7, 7)");
        refused(BARRED, INVALID, "costOf(7, 0)", "costOf(-1, 0)", "costOf(0, 7)", "costOf(0, -2)");
        refused(BARRED, INVALID, "pairOf(0, 0, 3)", "pairOf(0, 0, -1)", "pairOf(0, 0, " + LEAST_INT + ")", "pairOf(0, 0, " + GREATEST_INT + ")",
            "pairOf(7, 0, 0)", "pairOf(0, 7, 0)", "pairOf(0, -2, 0)");
        refused(BARRED, INVALID, "dearest(3)", "dearest(-1)", "dearest(" + LEAST_INT + ")", "dearest(" + GREATEST_INT + ")");
        refused(NEW, INVALID, "dearest(3)", "dearest(-1)");
        refused(COMMON, INVALID, "fault(2)", "fault(-1)", "fault(" + LEAST_INT + ")", "fault(" + GREATEST_INT + ")");
        refused(BARRED, INVALID, "taskOf(7)", "room(7)", "workerOf(7)");
        refused(COMMON, INVALID, "cost(3, 2, 10000)", "idle(3, 10000)", "pairOf(3, 2, 3)", "price(2, 2)", "workerIs(3, 4)");
    }

    /** The looks of the objects are of no use unless they tell of each change. */
    private static void takenCallsAreNoticed() {
        String[] calls = {
            "worker(8)", "task()", "dropWorker(2)", "dropTask(1)", "cost(0, 0, 3)", "cost(1, 1, 0)", "bar(0, 1)", "idle(0, 20)",
            "times(0, 1)", "undo()", "type(49)", "clearText()", "read()"
        };
        List<String> before = views(COMMON, "");
        for (String call : calls) {
            String[] more = java.util.Arrays.copyOf(COMMON, COMMON.length + 1);
            more[COMMON.length] = call;
            CHECKS.due(call + " is noticed", !before.equals(views(more, "")));
        }
    }

    private RefusedCallsTest() {
    }
}
