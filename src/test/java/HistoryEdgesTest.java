/** The sentences of "Changes and errors" on the history, and of promise 22, each with runs of its own. */
final class HistoryEdgesTest {
    private static final Checks CHECKS = new Checks();
    private static final Runs RUNS = new Runs(CHECKS);

    /** What asks, types, and tells faults; none of it is a change. */
    private static final String[] NO_CHANGES = {
        "costOf(0, 0)", "costOf(0, -1)", "total()", "taskOf(0)", "workerOf(0)", "totalFor(3)", "price(0, 0)", "price(0, 1)",
        "workerIs(0, 0)", "workerIs(0, 1)", "workerIs(0, 2)", "workerIs(0, 3)", "proof()", "pairOf(0, 0, 0)", "pairOf(0, 0, 1)",
        "pairOf(0, 0, 2)", "pairOf(0, -1, 2)", "room(0)", "dearest(0)", "dearest(1)", "dearest(2)", "count(0)", "count(1)",
        "count(2)", "count(3)", "count(4)", "count(5)", "count(6)", "count(7)", "count(8)", "type(49)", "fault(0)", "fault(1)",
        "clearText()"
    };

    public static void main(String[] args) {
        empty();
        eachChange();
        noChanges();
        changesThatAlterNothing();
        fourStates();
        oldestDropped();
        undoneAgain();
        textIsNotRecorded();
        sizesComeBack();
        longRun();
        CHECKS.finish("HistoryEdgesTest");
    }

    private static void due(String sentence, String... steps) {
        RUNS.due(sentence, steps);
    }

    private static void empty() {
        due("22: empty, of a new object", "undo() = NOT_POSSIBLE", "count(7) = 0");
        due("22: empty again", "worker(5)", "undo() = 0", "undo() = NOT_POSSIBLE", "count(0) = 0", "count(7) = 0");
        due("22: empty, and then a change", "undo() = NOT_POSSIBLE", "worker(5)", "count(7) = 1", "undo() = 0", "count(0) = 0");
    }

    /** The table has one state behind it. */
    private static void change(String change, String shown, String before, String after) {
        due("each change is recorded: " + change, "table 3,8/20;4,x/15", "count(7) = 1", shown + " = " + before, change, "count(7) = 2",
            shown + " = " + after, "undo() = 1", "count(7) = 1", shown + " = " + before, "total() = 12", "count(0) = 2", "count(1) = 2",
            "costOf(0, 0) = 3", "costOf(0, 1) = 8", "costOf(0, -1) = 20", "costOf(1, 0) = 4", "costOf(1, 1) = NOT_FOUND",
            "costOf(1, -1) = 15", "undo() = 0", "count(0) = 0", "count(1) = 0", "undo() = NOT_POSSIBLE");
    }

    private static void eachChange() {
        change("worker(7)", "count(0)", "2", "3");
        change("task()", "count(1)", "2", "3");
        change("dropWorker(0)", "count(0)", "2", "1");
        change("dropWorker(1)", "total()", "12", "3");
        change("dropTask(0)", "costOf(0, 0)", "3", "8");
        change("dropTask(1)", "count(1)", "2", "1");
        change("cost(0, 0, 9)", "costOf(0, 0)", "3", "9");
        change("cost(1, 1, 9)", "costOf(1, 1)", "NOT_FOUND", "9");
        change("bar(0, 0)", "costOf(0, 0)", "3", "NOT_FOUND");
        change("idle(1, 9)", "costOf(1, -1)", "15", "9");
        change("times(0, 2)", "costOf(0, -1)", "20", "40");
        change("times(0, 0)", "costOf(0, 1)", "8", "0");
        due("each change is recorded: read()", "worker(9)", "type 1,2/3;4,5/6", "count(7) = 1", "read() = 6", "count(7) = 2", "count(0) = 2",
            "undo() = 1", "count(0) = 1", "count(1) = 0", "costOf(0, -1) = 9");
    }

    private static void noChanges() {
        for (String call : NO_CHANGES) {
            due("no change is recorded: " + call, "table 3,8/20;4,x/15", "idle(0, 21)", "type /", "count(7) = 2", call, "count(7) = 2",
                "undo() = 1", "costOf(0, -1) = 20");
        }
        due("no change is recorded: undo()", "worker(1)", "worker(2)", "worker(3)", "undo() = 2", "undo() = 1", "undo() = 0",
            "undo() = NOT_POSSIBLE", "count(0) = 0");
    }

    private static void changesThatAlterNothing() {
        String[] calls = {"cost(0, 0, 3)", "idle(0, 20)", "times(0, 1)"};
        for (String call : calls) {
            due("a change records, also as it is: " + call, "table 3,8/20;4,x/15", "idle(1, 16)", call, "count(7) = 3", "undo() = 2",
                "costOf(1, -1) = 16", "undo() = 1", "costOf(1, -1) = 15");
        }
        due("a change records, also as it is: times(0, 0) of zeros", "table 0/0", "times(0, 0) = 0", "count(7) = 2", "undo() = 1");
        due("a change records, also as it is: read() again", "type 1/2", "read() = 1", "read() = 1", "read() = 1", "count(7) = 3",
            "undo() = 2", "count(0) = 1", "undo() = 1", "count(0) = 1", "undo() = 0", "count(0) = 0");
    }

    private static void fourStates() {
        due("at most 4 states", "worker(1)", "count(7) = 1", "worker(2)", "count(7) = 2", "worker(3)", "count(7) = 3", "worker(4)",
            "count(7) = 4", "worker(5)", "count(7) = 4", "worker(6)", "count(7) = 4");
        due("4 states, none dropped", "worker(1)", "worker(2)", "worker(3)", "worker(4)", "undo() = 3", "count(0) = 3", "undo() = 2",
            "count(0) = 2", "undo() = 1", "count(0) = 1", "undo() = 0", "count(0) = 0", "undo() = NOT_POSSIBLE");
    }

    private static void oldestDropped() {
        due("a fifth state: the oldest one is dropped", "worker(1)", "worker(2)", "worker(3)", "worker(4)", "worker(5)", "undo() = 3",
            "count(0) = 4", "undo() = 2", "count(0) = 3", "undo() = 1", "count(0) = 2", "undo() = 0", "count(0) = 1",
            "undo() = NOT_POSSIBLE", "count(0) = 1", "costOf(0, -1) = 1");
        due("a sixth state, of values", "worker(1)", "idle(0, 2) = 1", "idle(0, 3) = 2", "idle(0, 4) = 3", "idle(0, 5) = 4",
            "idle(0, 6) = 5", "undo() = 3", "costOf(0, -1) = 5", "undo() = 2", "costOf(0, -1) = 4", "undo() = 1", "costOf(0, -1) = 3",
            "undo() = 0", "costOf(0, -1) = 2", "undo() = NOT_POSSIBLE", "costOf(0, -1) = 2");
    }

    private static void undoneAgain() {
        due("the latest state is removed", "worker(1)", "idle(0, 2) = 1", "idle(0, 3) = 2", "undo() = 2", "costOf(0, -1) = 2", "undo() = 1",
            "costOf(0, -1) = 1");
        due("behind undo another change", "worker(1)", "idle(0, 2) = 1", "idle(0, 3) = 2", "undo() = 2", "idle(0, 4) = 2", "count(7) = 3",
            "undo() = 2", "costOf(0, -1) = 2", "undo() = 1", "costOf(0, -1) = 1", "undo() = 0", "count(0) = 0");
        due("behind a dropped state and undo other changes", "worker(1)", "idle(0, 2)", "idle(0, 3)", "idle(0, 4)", "idle(0, 5)",
            "idle(0, 6)", "undo() = 3", "undo() = 2", "idle(0, 7) = 4", "idle(0, 8) = 7", "count(7) = 4", "idle(0, 9) = 8", "count(7) = 4",
            "undo() = 3", "costOf(0, -1) = 8", "undo() = 2", "costOf(0, -1) = 7", "undo() = 1", "costOf(0, -1) = 4", "undo() = 0",
            "costOf(0, -1) = 3", "undo() = NOT_POSSIBLE");
        due("a state restored is not altered by what comes then", "table 1,2/3;4,5/6", "idle(0, 9)", "undo() = 1", "cost(0, 0, 7)",
            "bar(1, 1)", "undo() = 2", "undo() = 1", "costOf(0, 0) = 1", "costOf(1, 1) = 5", "costOf(0, -1) = 3");
    }

    private static void textIsNotRecorded() {
        due("everything but the text: typed behind the change", "worker(1)", "type 1/2", "undo() = 0", "count(8) = 3", "fault(0) = NOT_FOUND",
            "read() = 1");
        due("everything but the text: typed before the change", "type 1/2", "worker(1)", "undo() = 0", "count(8) = 3", "read() = 1");
        due("everything but the text: emptied behind the change", "type 1/2", "worker(1)", "clearText() = 3", "undo() = 0", "count(8) = 0",
            "fault(0) = 0");
        due("everything but the text: read() undone", "type 1/2", "read() = 1", "undo() = 0", "count(8) = 3", "count(0) = 0", "read() = 1",
            "count(0) = 1");
        due("everything but the text: another text", "type 1/2", "read() = 1", "clearText() = 3", "type 7/8", "undo() = 0", "read() = 7");
    }

    private static void sizesComeBack() {
        due("the eighth worker is refused again", "7x worker(5)", "dropWorker(6) = 6", "undo() = 3", "worker(1) = LIMIT_REACHED",
            "count(0) = 7");
        due("the eighth task is refused again", "7x task()", "dropTask(6) = 6", "undo() = 3", "task() = LIMIT_REACHED", "count(1) = 7");
        due("7 of each come back", "square 7 20 30", "cost(6, 6, 5)", "type 1/2", "read() = 1", "count(2) = 1", "undo() = 3", "count(0) = 7",
            "count(1) = 7", "count(2) = 49", "costOf(6, 6) = 5", "costOf(6, -1) = 30", "total() = 125");
        due("what is dropped comes back as it was", "table 1,x/3;4,5/6;x,8/9", "dropWorker(0) = 2", "dropTask(0) = 1", "dropWorker(1) = 1",
            "undo() = 3", "undo() = 2", "undo() = 1", "costOf(0, 0) = 1", "costOf(0, 1) = NOT_FOUND", "costOf(1, 0) = 4", "costOf(1, 1) = 5",
            "costOf(2, 0) = NOT_FOUND", "costOf(2, 1) = 8", "costOf(0, -1) = 3", "costOf(1, -1) = 6", "costOf(2, -1) = 9");
    }

    /** An object is used for at most 512 calls. */
    private static void longRun() {
        due("the 512th call, a change", "worker(1)", "510x idle(0, 1)", "idle(0, 2) = 1");
        due("the 512th call, undo", "worker(1)", "506x idle(0, 1)", "idle(0, 7) = 1", "idle(0, 8) = 7", "idle(0, 9) = 8", "undo() = 3",
            "undo() = 2");
        due("the 512th call, a question", "80x type(49)", "430x clearText()", "type(49) = 1", "count(8) = 1");
        due("256 changes, all undone", "worker(1)", "3x idle(0, 1)", "252x idle(0, 2)", "undo() = 3", "undo() = 2", "undo() = 1", "undo() = 0",
            "250x count(7)", "undo() = NOT_POSSIBLE", "costOf(0, -1) = 2");
    }

    private HistoryEdgesTest() {
    }
}
