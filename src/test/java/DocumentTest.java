import java.io.IOException;
import java.nio.file.Files;
import java.nio.file.Path;

/**
 * The document from its first line to its last, in its own words: behind each sentence that says what a call answers or
 * changes there are runs that would show it broken. That no sentence is left out is tested too.
 */
final class DocumentTest {
    private static final Checks CHECKS = new Checks();
    private static final Runs RUNS = new Runs(CHECKS);

    /** Workers with idle costs of 20 and 15; the least total of 12 is that of 0-1, 1-0 alone. */
    private static final String TWO = "table 3,8/20;4,x/15";
    private static final String SEVEN_ROWS = "1/2;1/2;1/2;1/2;1/2;1/2;1/2";
    private static final String LEAST_INT = "-2147483648";
    private static final String GREATEST_INT = "2147483647";

    private final String document;
    private int place;
    private String said = "";
    private int runs;

    private DocumentTest(String document) {
        this.document = document.replaceAll("\\s+", " ").trim();
    }

    public static void main(String[] args) throws IOException {
        DocumentTest test = new DocumentTest(Files.readString(Path.of(args[1])));
        test.whatItIs();
        test.face();
        test.plans();
        test.prices();
        test.changesOfCosts();
        test.texts();
        test.changes();
        test.errors();
        test.constants();
        test.promises1To5();
        test.promises6To10();
        test.promises11To14();
        test.promises15To17();
        test.promises18To20();
        test.promises21And22();
        test.promises23And24();
        test.promises25And26();
        test.notPromised();
        test.end();
        CHECKS.finish("DocumentTest");
    }

    /** The document goes on with these words, and the runs that follow are for them. */
    private void says(String words) {
        tells(words);
        said = words;
        runs = 0;
    }

    /** The document goes on with these words, which say of no call what it answers or changes. */
    private void tells(String words) {
        CHECKS.due("a run for \"" + said + "\"", said.isEmpty() || runs > 0);
        said = "";
        boolean here = document.startsWith(words, place);
        int found = here ? place : document.indexOf(words, place);
        CHECKS.due("the document goes on with \"" + words + "\", not with \"" + ahead() + "\"", here);
        if (found >= 0) {
            place = found + words.length();
            place += document.startsWith(" ", place) ? 1 : 0;
        }
    }

    private String ahead() {
        return document.substring(place, Math.min(place + 60, document.length()));
    }

    private void due(String... steps) {
        runs++;
        RUNS.due(said, steps);
    }

    private void fault(String text, int where, int reason) {
        due("type " + text, "fault(0) = " + where, "fault(1) = " + reason, "read() = NOT_POSSIBLE");
    }

    private void noFault(String text) {
        due("type " + text, "fault(0) = NOT_FOUND", "fault(1) = NOT_FOUND", "read()");
    }

    /** One of the public face's lines with a method, which answers an int as it takes ints. */
    private void method(String name, String... arguments) {
        StringBuilder taken = new StringBuilder();
        Class<?>[] types = new Class<?>[arguments.length];
        for (int i = 0; i < arguments.length; i++) {
            taken.append(i == 0 ? "" : ", ").append("int ").append(arguments[i]);
            types[i] = int.class;
        }
        tells("public int " + name + "(" + taken + ");");
        boolean found;
        try {
            found = PricedPairs.class.getMethod(name, types).getReturnType() == int.class;
        } catch (NoSuchMethodException e) {
            found = false;
        }
        CHECKS.due("there is int " + name + "(" + taken + ")", found);
    }

    private void end() {
        tells("");
        CHECKS.due("the document ends here, not with \"" + ahead() + "\"", place == document.length());
    }

    private void whatItIs() {
        tells("# PricedPairs");
        tells("## What it is");
        tells("Workers and tasks: costs of pairs, barred pairs, workers who stay idle for a cost of their own, least totals, the first"
            + " least plan, least and greatest prices of tasks, worths of workers, proofs by prices, tight pairs, pairs that are in"
            + " some or in all least plans, how much costs could rise or fall, what a worker more or less, or a task, would change,"
            + " plans for some workers alone, costs that are multiplied, tables as texts with places, reasons and causes of faults,"
            + " and undo.");
        says("An object is used for at most 512 calls after it has been made; what later calls answer is free.");
        due("worker(1)", "510x idle(0, 1)", "idle(0, 2) = 1");
        due("80x type(49)", "431x clearText()", "count(8) = 0");
    }

    private void face() {
        tells("## The public face");
        tells("```java public final class PricedPairs {");
        tells("public static final int INVALID_ARGUMENT = -1;");
        CHECKS.due("INVALID_ARGUMENT", PricedPairs.INVALID_ARGUMENT, -1);
        tells("public static final int NOT_POSSIBLE = -2;");
        CHECKS.due("NOT_POSSIBLE", PricedPairs.NOT_POSSIBLE, -2);
        tells("public static final int LIMIT_REACHED = -3;");
        CHECKS.due("LIMIT_REACHED", PricedPairs.LIMIT_REACHED, -3);
        tells("public static final int NOT_FOUND = -4;");
        CHECKS.due("NOT_FOUND", PricedPairs.NOT_FOUND, -4);
        tells("public PricedPairs();");
        CHECKS.due("a public constructor", PricedPairs.class.getConstructors().length, 1);
        method("worker", "idle");
        method("task");
        method("dropWorker", "worker");
        method("dropTask", "task");
        method("cost", "worker", "task", "cost");
        method("bar", "worker", "task");
        method("idle", "worker", "cost");
        method("times", "worker", "factor");
        method("costOf", "worker", "task");
        method("total");
        method("taskOf", "worker");
        method("workerOf", "task");
        method("totalFor", "workers");
        method("price", "task", "what");
        method("workerIs", "worker", "what");
        method("proof");
        method("pairOf", "worker", "task", "what");
        method("room", "worker");
        method("dearest", "what");
        method("count", "what");
        method("undo");
        method("type", "character");
        method("clearText");
        method("fault", "what");
        method("read");
        tells("} ```");
    }

    private void plans() {
        tells("## Terms");
        tells("All numbers are whole numbers.");
        tells("Workers, tasks, plans");
        says("There are at most 7 workers and at most 7 tasks, both numbered from 0.");
        due("worker(5) = 0", "worker(5) = 1", "4x worker(5)", "worker(5) = 6", "worker(5) = LIMIT_REACHED", "count(0) = 7");
        due("task() = 0", "task() = 1", "4x task()", "task() = 6", "task() = LIMIT_REACHED", "count(1) = 7");
        says("A pair of a worker and a task has a cost (0 to 9999), or is barred.");
        due("table 0,9999,x/5", "costOf(0, 0) = 0", "costOf(0, 1) = 9999", "costOf(0, 2) = NOT_FOUND");
        due("table 1/5", "cost(0, 0, 10000) = INVALID_ARGUMENT", "cost(0, 0, -1) = INVALID_ARGUMENT", "costOf(0, 0) = 1");
        says("A worker has an idle cost (0 to 9999).");
        due("worker(0) = 0", "worker(9999) = 1", "costOf(0, -1) = 0", "costOf(1, -1) = 9999");
        due("worker(10000) = INVALID_ARGUMENT", "worker(-1) = INVALID_ARGUMENT", "count(0) = 0");
        says("A plan gives each worker a task or none, no barred pair, and no task to two workers.");
        due("table 0/10;0/20;x/30", "total() = 40", "taskOf(0) = NOT_FOUND", "taskOf(1) = 0", "taskOf(2) = NOT_FOUND");
        says("Its total is the sum of the costs of its pairs, and of the idle costs of workers without a task.");
        due("table 1,x/90;x,20/90;x,x/300", "total() = 321");
        says("The least total is that of all plans.");
        due("table 1,2/99;1,9/99", "total() = 3");
        due("table 9999,9999/0;9999,9999/0", "total() = 0");
        says("Plans are compared worker by worker, from the worker 0 on, by the tasks (a lower one first, none last); the first plan"
            + " is the least one of those with the least total.");
        due("table 5,5/9;5,5/9", "taskOf(0) = 0", "taskOf(1) = 1");
        due("table 5/5;5/5", "taskOf(0) = 0", "taskOf(1) = NOT_FOUND");
        due("table 5,5/9;5,x/5", "taskOf(0) = 0", "taskOf(1) = NOT_FOUND");
        due("table 6,5,5/9", "taskOf(0) = 1");
    }

    private void prices() {
        tells("### Prices");
        says("The least price of a task is by how much less the least total would be if there was another task with the same costs"
            + " and bars (as one more task).");
        due("table 0/10;0/20", "price(0, 0) = 10");
        due("table 0/10;x/20", "price(0, 0) = 0");
        due("table 1,4/20;2,9/20", "price(0, 0) = 3", "price(1, 0) = 0");
        says("The greatest price of a task is by how much more the least total would be without it.");
        due(TWO, "price(0, 1) = 11", "price(1, 1) = 6");
        due("table 5,5/9", "price(0, 1) = 0");
        says("(Both are 0 or more.)");
        due("table x,9999/0", "price(0, 0) = 0", "price(0, 1) = 0", "price(1, 0) = 0", "price(1, 1) = 0");
        says("The worth of a worker, by the least prices, is the least one of the idle cost and, for each pair that is not barred,"
            + " its cost plus the least price of the task.");
        due(TWO, "workerIs(0, 0) = 8", "workerIs(1, 0) = 9");
        due("table 5,x/3", "workerIs(0, 0) = 3");
        due("table x/9999", "workerIs(0, 0) = 9999");
        says("A pair is tight if it is not barred and its cost plus the least price of its task is the worth of its worker.");
        due(TWO, "workerIs(0, 1) = 3", "workerIs(1, 1) = 1", "count(4) = 3");
        due("table x,5,6/5", "workerIs(0, 1) = 2", "count(4) = 1");
        says("(The sum of all worths, less the sum of all least prices, is the least total: this proves it.)");
        due(TWO, "workerIs(0, 0) = 8", "workerIs(1, 0) = 9", "count(5) = 5", "total() = 12", "proof() = 12");
        due("table 0,x/50;x,0/60;0,0/70;0,0/80", "count(5) = 120", "total() = 110", "proof() = 110");
    }

    private void changesOfCosts() {
        tells("### Changes of costs");
        says("A pair is possible if it is in some plan with the least total; sure if it is in all of them.");
        due("table 5,5,6/9", "pairOf(0, 0, 0) = 1", "pairOf(0, 1, 0) = 1", "pairOf(0, 2, 0) = 0", "pairOf(0, 0, 1) = 0");
        due("table 1,9,9/99;9,5,5/99", "pairOf(0, 0, 1) = 1", "pairOf(1, 1, 1) = 0", "pairOf(0, 1, 1) = 0");
        says("The regret of a pair is by how much more the least total would be if it had to be in the plan.");
        due("table 1,4/20;2,9/20", "total() = 6", "pairOf(0, 0, 2) = 4", "pairOf(0, 1, 2) = 0", "pairOf(0, -1, 2) = 16");
        says("The room of a pair of the first plan is by how much its cost could rise until another plan without it has the same"
            + " total or less: the least total with this pair barred, less the least total.");
        due("table 5,7/9", "room(0) = 2", "cost(0, 0, 7) = 100002", "room(0) = 0", "taskOf(0) = 0", "cost(0, 0, 8)", "taskOf(0) = 1");
        due(TWO, "room(0) = 6", "room(1) = 6", "bar(1, 0) = 6");
    }

    private void texts() {
        tells("### Texts");
        says("There is a text of at most 80 characters, initially empty.");
        due("count(8) = 0", "79x type(49)", "type(49) = 80", "type(49) = LIMIT_REACHED", "count(8) = 80");
        says("As a table it is one or more rows with \";\" between two, one for each worker: entries with \",\" between two, one for"
            + " each task, and then \"/\" and the idle cost; an entry is \"x\" (barred) or a number; numbers have one to four digits,"
            + " without 0 ahead of others.");
        due("type 0,12,x/345;6789,x,10/0", "fault(0) = NOT_FOUND", "read() = 0", "count(0) = 2", "count(1) = 3", "costOf(0, 0) = 0",
            "costOf(0, 1) = 12", "costOf(0, 2) = NOT_FOUND", "costOf(0, -1) = 345", "costOf(1, 0) = 6789", "costOf(1, 1) = NOT_FOUND",
            "costOf(1, 2) = 10", "costOf(1, -1) = 0");
        noFault("1/2");
        fault("1/12345", 6, 1);
        fault("01/2", 1, 1);
        fault("1/00", 3, 1);
        fault("1/x", 2, 1);
        says("The fault of the text is told by a place and a reason, the first one from the left:");
        fault("a;b", 0, 1);
        fault("1/2;3,4/5;6a", 5, 2);
        fault("1/2a;3,4/5", 3, 1);
        says("1: a character that cannot stand at its place (its index; the length of the text if it ends too early, as the empty"
            + " text does);");
        due("fault(0) = 0", "fault(1) = 1");
        fault("1,,2/3", 2, 1);
        fault("1;2", 1, 1);
        fault("1/2/3", 3, 1);
        fault("1", 1, 1);
        fault("1/2;", 4, 1);
        says("2: a \",\" by which the first row gets an eighth entry, or another row more entries than the first one has;");
        noFault("1,2,3,4,5,6,7/9");
        fault("1,2,3,4,5,6,7,8/9", 13, 2);
        noFault("1,2/3;4,5/6");
        fault("1,2/3;4,5,6/7", 9, 2);
        says("a \"/\" behind fewer entries than the first row has;");
        fault("1,2/3;4/5", 7, 2);
        says("a \";\" by which there is an eighth row (its index).");
        noFault(SEVEN_ROWS);
        fault(SEVEN_ROWS + ";1/2", 27, 2);
    }

    private void changes() {
        tells("### Changes and errors");
        says("The changes are the calls of worker, task, dropWorker, dropTask, cost, bar, idle, times and read that return no error.");
        String[] changes = {
            "worker(1)", "task()", "dropWorker(1)", "dropTask(1)", "cost(0, 0, 3)", "bar(0, 0)", "idle(0, 20)", "times(0, 1)", "read()"
        };
        for (String change : changes) {
            due(TWO, "type 1/2", "count(7) = 1", change, "count(7) = 2");
        }
        String[] others = {
            "costOf(0, 0)", "total()", "taskOf(0)", "workerOf(0)", "totalFor(1)", "price(0, 0)", "workerIs(0, 0)", "proof()",
            "pairOf(0, 0, 0)", "room(0)", "dearest(0)", "count(0)", "type(49)", "clearText()", "fault(0)"
        };
        for (String other : others) {
            due(TWO, "count(7) = 1", other, "count(7) = 1");
        }
        String[] refused = {"worker(-1)", "dropWorker(2)", "dropTask(2)", "cost(2, 0, 3)", "idle(0, -1)", "times(0, -1)"};
        for (String call : refused) {
            due(TWO, call + " = INVALID_ARGUMENT", "count(7) = 1");
        }
        due(TWO, "bar(1, 1) = NOT_POSSIBLE", "read() = NOT_POSSIBLE", "times(0, 500) = LIMIT_REACHED", "count(7) = 1");
        says("A history of at most 4 states is kept: each change records everything before it but the text, and if there are 5 states"
            + " then, the oldest one is dropped.");
        due("worker(1)", "idle(0, 2)", "idle(0, 3)", "idle(0, 4)", "count(7) = 4", "idle(0, 5)", "count(7) = 4", "undo() = 3",
            "costOf(0, -1) = 4", "undo() = 2", "costOf(0, -1) = 3", "undo() = 1", "costOf(0, -1) = 2", "undo() = 0",
            "costOf(0, -1) = 1", "undo() = NOT_POSSIBLE");
        due(TWO, "dropWorker(0)", "dropTask(0)", "undo()", "undo()", "count(0) = 2", "count(1) = 2", "costOf(0, 0) = 3",
            "costOf(0, 1) = 8", "costOf(0, -1) = 20", "costOf(1, 0) = 4", "costOf(1, 1) = NOT_FOUND", "costOf(1, -1) = 15");
        due("type 1/2", "worker(5)", "type 3", "undo() = 0", "count(8) = 4", "read() = 1", "costOf(0, -1) = 23");
    }

    private void errors() {
        says("If several errors apply to a call, INVALID_ARGUMENT is returned rather than NOT_POSSIBLE, NOT_POSSIBLE rather than"
            + " LIMIT_REACHED, and LIMIT_REACHED rather than NOT_FOUND.");
        due("7x worker(5)", "worker(10000) = INVALID_ARGUMENT");
        due("80x type(49)", "type(31) = INVALID_ARGUMENT");
        due("worker(5)", "times(1, 2000000000) = INVALID_ARGUMENT", "times(0, 2000000001) = INVALID_ARGUMENT");
        due("table x/5", "pairOf(0, 0, 3) = INVALID_ARGUMENT", "bar(0, 1) = INVALID_ARGUMENT", "dearest(3) = INVALID_ARGUMENT");
        due("type 1/2", "fault(2) = INVALID_ARGUMENT");
        says("A call that returns an error changes nothing.");
        due(TWO, "idle(0, 10000) = INVALID_ARGUMENT", "cost(0, 0, 10000) = INVALID_ARGUMENT", "bar(1, 1) = NOT_POSSIBLE",
            "times(0, 500) = LIMIT_REACHED", "costOf(0, 0) = 3", "costOf(0, 1) = 8", "costOf(0, -1) = 20", "costOf(1, 0) = 4",
            "costOf(1, 1) = NOT_FOUND", "costOf(1, -1) = 15", "total() = 12", "undo() = 0");
        due(TWO, "type 1/2;", "read() = NOT_POSSIBLE", "type(31) = INVALID_ARGUMENT", "count(8) = 4", "total() = 12", "count(7) = 1");
        due("7x worker(5)", "7x task()", "worker(6) = LIMIT_REACHED", "task() = LIMIT_REACHED", "count(0) = 7", "count(1) = 7",
            "undo() = 3", "count(1) = 6");
        says("If there is no worker or task with a certain number, this is INVALID_ARGUMENT.");
        String[] calls = {
            "dropWorker(2)", "dropTask(2)", "cost(2, 0, 1)", "cost(0, 2, 1)", "bar(2, 0)", "bar(0, 2)", "idle(2, 1)", "times(2, 1)",
            "costOf(2, 0)", "costOf(0, 2)", "taskOf(2)", "workerOf(2)", "totalFor(4)", "price(2, 0)", "workerIs(2, 0)",
            "pairOf(2, 0, 0)", "pairOf(0, 2, 0)", "room(2)"
        };
        for (String call : calls) {
            due(TWO, call + " = INVALID_ARGUMENT", call.replaceFirst("[24]", LEAST_INT) + " = INVALID_ARGUMENT",
                call.replaceFirst("[24]", GREATEST_INT) + " = INVALID_ARGUMENT");
        }
        says("Sets are told as bits: bit k is for number k.");
        due("table 1/11;x/12;x/14", "totalFor(1) = 1", "totalFor(2) = 12", "totalFor(4) = 14", "totalFor(6) = 26");
        due("table 9,5,9,5,9,9,5/9", "workerIs(0, 1) = 74");
    }

    private void constants() {
        says("The constants: `INVALID_ARGUMENT = -1`: An argument is out of its range, or there is no such worker or task.");
        due("worker(-1) = -1", "dropWorker(0) = -1", "dropTask(0) = -1");
        says("`NOT_POSSIBLE = -2`: The call is not possible in the present state.");
        due("undo() = -2", "read() = -2");
        says("`LIMIT_REACHED = -3`: A fixed limit has been reached.");
        due("7x task()", "task() = -3");
        says("`NOT_FOUND = -4`: There is no such value.");
        due("worker(5)", "taskOf(0) = -4");
        tells("Ahead of the calls `worker`, `task`, `dropWorker`, `dropTask`, `cost`, `bar`, `idle`, `times`, `costOf` the interface"
            + " says: ---- workers, tasks, costs.");
        tells("Ahead of the calls `total`, `taskOf`, `workerOf`, `totalFor` the interface says: ---- plans.");
        tells("Ahead of the calls `price`, `workerIs`, `proof` the interface says: ---- prices.");
        tells("Ahead of the calls `pairOf`, `room`, `dearest`, `count`, `undo` the interface says: ---- pairs.");
        tells("Ahead of the calls `type`, `clearText`, `fault`, `read` the interface says: ---- texts.");
    }

    private void promises1To5() {
        tells("## Promise 1: A new object");
        says("`PricedPairs()`: Creates a table without workers and tasks.");
        due("count(0) = 0", "count(1) = 0", "count(7) = 0", "total() = 0");

        tells("## Promise 2: worker");
        says("`int worker(int idle)`: Adds a worker; all pairs of the worker are barred.");
        due("table 1,2/3", "worker(7)", "count(0) = 2", "costOf(1, 0) = NOT_FOUND", "costOf(1, 1) = NOT_FOUND", "costOf(0, 0) = 1");
        due("table 1,2/3;4,5/6", "dropWorker(1)", "worker(7)", "costOf(1, 0) = NOT_FOUND", "costOf(1, 1) = NOT_FOUND");
        says("- `idle`: 0 to 9999: the idle cost");
        due("worker(0) = 0", "costOf(0, -1) = 0", "worker(9999) = 1", "costOf(1, -1) = 9999");
        says("Returns the number of the worker; INVALID_ARGUMENT if idle is out of range; LIMIT_REACHED if there are 7.");
        due("worker(5) = 0", "worker(5) = 1", "dropWorker(0)", "worker(5) = 1");
        due("worker(-1) = INVALID_ARGUMENT", "worker(10000) = INVALID_ARGUMENT", "worker(" + LEAST_INT + ") = INVALID_ARGUMENT",
            "worker(" + GREATEST_INT + ") = INVALID_ARGUMENT");
        due("6x worker(5)", "worker(5) = 6", "worker(5) = LIMIT_REACHED");

        tells("## Promise 3: task");
        says("`int task()`: Adds a task; all of its pairs are barred.");
        due("table 1/3;2/4", "task()", "count(1) = 2", "costOf(0, 1) = NOT_FOUND", "costOf(1, 1) = NOT_FOUND", "costOf(1, 0) = 2");
        due("table 1,2/3;4,5/6", "dropTask(1)", "task()", "costOf(0, 1) = NOT_FOUND", "costOf(1, 1) = NOT_FOUND");
        says("Returns its number; LIMIT_REACHED if there are 7.");
        due("task() = 0", "task() = 1", "4x task()", "task() = 6", "task() = LIMIT_REACHED");

        tells("## Promise 4: dropWorker");
        says("`int dropWorker(int worker)`: Drops a worker; those behind have numbers that are less by 1.");
        due("table 1,x/11;2,5/12;x,3/13", "dropWorker(1)", "costOf(0, 0) = 1", "costOf(0, -1) = 11", "costOf(1, 0) = NOT_FOUND",
            "costOf(1, 1) = 3", "costOf(1, -1) = 13", "count(0) = 2", "count(1) = 2");
        says("- `worker`: number of the worker");
        due("worker(1)", "worker(2)", "dropWorker(1) = 1", "costOf(0, -1) = 1");
        due("worker(1)", "worker(2)", "dropWorker(0) = 1", "costOf(0, -1) = 2");
        says("Returns how many are left; INVALID_ARGUMENT.");
        due("worker(1)", "worker(2)", "dropWorker(2) = INVALID_ARGUMENT", "dropWorker(-1) = INVALID_ARGUMENT", "dropWorker(0) = 1",
            "dropWorker(1) = INVALID_ARGUMENT", "dropWorker(0) = 0", "dropWorker(0) = INVALID_ARGUMENT");

        tells("## Promise 5: dropTask");
        says("`int dropTask(int task)`: Drops a task; those behind it have numbers that are less by 1.");
        due("table 1,2,x/11;x,5,6/12", "dropTask(1)", "costOf(0, 0) = 1", "costOf(0, 1) = NOT_FOUND", "costOf(1, 0) = NOT_FOUND",
            "costOf(1, 1) = 6", "costOf(1, -1) = 12", "count(0) = 2", "count(1) = 2");
        says("- `task`: number of the task");
        due("table 1,2/3", "dropTask(1) = 1", "costOf(0, 0) = 1");
        due("table 1,2/3", "dropTask(0) = 1", "costOf(0, 0) = 2");
        says("Returns how many are left; INVALID_ARGUMENT.");
        due("task()", "task()", "dropTask(2) = INVALID_ARGUMENT", "dropTask(-1) = INVALID_ARGUMENT", "dropTask(0) = 1",
            "dropTask(1) = INVALID_ARGUMENT", "dropTask(0) = 0", "dropTask(0) = INVALID_ARGUMENT");
    }

    private void promises6To10() {
        tells("## Promise 6: cost");
        says("`int cost(int worker, int task, int cost)`: Sets the cost of a pair, which is not barred then.");
        due("table x,2/9;4,5/6", "cost(0, 0, 7)", "costOf(0, 0) = 7", "costOf(0, 1) = 2", "costOf(1, 0) = 4", "bar(0, 0) = 0");
        says("- `worker`: number of the worker - `task`: number of the task - `cost`: 0 to 9999");
        due("table 1,2/9;4,5/6", "cost(1, 0, 0)", "costOf(1, 0) = 0", "costOf(0, 1) = 2", "cost(1, 0, 9999)", "costOf(1, 0) = 9999");
        says("Returns by how much the least total becomes more by it, plus 100000; INVALID_ARGUMENT if an argument is out of range.");
        due("table 3/5", "cost(0, 0, 3) = 100000", "cost(0, 0, 4) = 100001", "cost(0, 0, 9) = 100001", "cost(0, 0, 1) = 99996");
        due("table x/9999", "cost(0, 0, 0) = 90001", "cost(0, 0, 9999) = 109999");
        due(TWO, "cost(-1, 0, 5) = INVALID_ARGUMENT", "cost(2, 0, 5) = INVALID_ARGUMENT", "cost(0, -1, 5) = INVALID_ARGUMENT",
            "cost(0, 2, 5) = INVALID_ARGUMENT", "cost(0, 0, -1) = INVALID_ARGUMENT", "cost(0, 0, 10000) = INVALID_ARGUMENT");

        tells("## Promise 7: bar");
        says("`int bar(int worker, int task)`: Bars a pair.");
        due("table 1,2/9;4,5/6", "bar(0, 1)", "costOf(0, 1) = NOT_FOUND", "costOf(0, 0) = 1", "costOf(1, 0) = 4", "costOf(1, 1) = 5");
        says("- `worker`: number of the worker - `task`: number of the task");
        due("table 1,2/9;4,5/6", "bar(1, 0)", "costOf(1, 0) = NOT_FOUND", "costOf(0, 1) = 2");
        says("Returns by how much the least total becomes more by it; INVALID_ARGUMENT if an argument is out of range; NOT_POSSIBLE if"
            + " it is barred.");
        due(TWO, "bar(0, 0) = 0", "bar(0, 1) = 12", "bar(1, 0) = 11", "bar(1, 0) = NOT_POSSIBLE", "total() = 35");
        due("table 0/9999", "bar(0, 0) = 9999");
        due(TWO, "bar(-1, 0) = INVALID_ARGUMENT", "bar(2, 0) = INVALID_ARGUMENT", "bar(0, -1) = INVALID_ARGUMENT",
            "bar(0, 2) = INVALID_ARGUMENT", "bar(1, 1) = NOT_POSSIBLE");

        tells("## Promise 8: idle");
        says("`int idle(int worker, int cost)`: Sets the idle cost of a worker.");
        due("table 1/9;4/6", "idle(1, 3)", "costOf(1, -1) = 3", "costOf(0, -1) = 9", "costOf(1, 0) = 4", "total() = 4");
        says("- `worker`: number of the worker - `cost`: 0 to 9999");
        due("worker(5)", "idle(0, 0)", "costOf(0, -1) = 0", "idle(0, 9999)", "costOf(0, -1) = 9999");
        says("Returns what it was; INVALID_ARGUMENT if an argument is out of range.");
        due("worker(5)", "idle(0, 7) = 5", "idle(0, 7) = 7", "idle(0, 0) = 7", "idle(0, 1) = 0");
        due("worker(5)", "idle(-1, 7) = INVALID_ARGUMENT", "idle(1, 7) = INVALID_ARGUMENT", "idle(0, -1) = INVALID_ARGUMENT",
            "idle(0, 10000) = INVALID_ARGUMENT");

        tells("## Promise 9: times");
        says("`int times(int worker, int factor)`: Multiplies all costs of a worker, the idle one too.");
        due("table 3,x,7/4;5,6,7/8", "times(0, 3)", "costOf(0, 0) = 9", "costOf(0, 1) = NOT_FOUND", "costOf(0, 2) = 21",
            "costOf(0, -1) = 12", "costOf(1, 0) = 5", "costOf(1, -1) = 8");
        says("- `worker`: number of the worker - `factor`: 0 to 2000000000");
        due("table 3,x/4;0,x/0", "times(0, 0) = 0", "costOf(0, 0) = 0", "costOf(0, 1) = NOT_FOUND", "times(1, 2000000000) = 0");
        says("Returns the greatest of them then; INVALID_ARGUMENT if an argument is out of range; LIMIT_REACHED if one of them would"
            + " be above 9999.");
        due("table 3,x,7/4", "times(0, 1428) = 9996", "times(0, 1) = 9996", "times(0, 2) = LIMIT_REACHED");
        due("table 3/9", "times(0, 1111) = 9999");
        due("table 9/3", "times(0, 1112) = LIMIT_REACHED", "times(0, 2000000000) = LIMIT_REACHED", "times(0, 1111) = 9999");
        due("table 9/3", "times(-1, 1) = INVALID_ARGUMENT", "times(1, 1) = INVALID_ARGUMENT", "times(0, -1) = INVALID_ARGUMENT",
            "times(0, 2000000001) = INVALID_ARGUMENT");

        tells("## Promise 10: costOf");
        says("`int costOf(int worker, int task)`: Returns the cost of a pair.");
        due("table 1,2/9;4,5/6", "costOf(0, 0) = 1", "costOf(0, 1) = 2", "costOf(1, 0) = 4", "costOf(1, 1) = 5");
        says("- `worker`: number of the worker - `task`: number of the task, -1: the idle cost");
        due("table 1,2/9;4,5/6", "costOf(0, -1) = 9", "costOf(1, -1) = 6");
        says("Returns the cost; INVALID_ARGUMENT if an argument is out of range; NOT_FOUND if the pair is barred.");
        due(TWO, "costOf(0, 1) = 8", "costOf(1, 1) = NOT_FOUND", "costOf(0, -2) = INVALID_ARGUMENT", "costOf(0, 2) = INVALID_ARGUMENT",
            "costOf(-1, 0) = INVALID_ARGUMENT", "costOf(2, -1) = INVALID_ARGUMENT");
    }

    private void promises11To14() {
        tells("## Promise 11: total");
        says("`int total()`: Returns the least total.");
        due(TWO, "total() = 12");
        due("7x worker(9999)", "total() = 69993");
        says("Returns it, 0 without workers.");
        due("total() = 0", "task()", "total() = 0", "worker(5)", "total() = 5", "dropWorker(0)", "total() = 0");

        tells("## Promise 12: taskOf");
        says("`int taskOf(int worker)`: Returns the task of a worker in the first plan.");
        due(TWO, "taskOf(0) = 1", "taskOf(1) = 0");
        says("- `worker`: number of the worker");
        due("table 1,x,x/9;x,x,1/9;x,1,x/9", "taskOf(0) = 0", "taskOf(1) = 2", "taskOf(2) = 1");
        says("Returns the task; INVALID_ARGUMENT; NOT_FOUND if the worker is idle.");
        due("table 5/4;5/6", "taskOf(0) = NOT_FOUND", "taskOf(1) = 0", "taskOf(2) = INVALID_ARGUMENT", "taskOf(-1) = INVALID_ARGUMENT");

        tells("## Promise 13: workerOf");
        says("`int workerOf(int task)`: Returns the worker of a task in the first plan.");
        due(TWO, "workerOf(0) = 1", "workerOf(1) = 0");
        says("- `task`: number of the task");
        due("table 1,x,x/9;x,x,1/9;x,1,x/9", "workerOf(0) = 0", "workerOf(1) = 2", "workerOf(2) = 1");
        says("Returns the worker; INVALID_ARGUMENT; NOT_FOUND if nobody has it.");
        due("table 5,6/9", "workerOf(0) = 0", "workerOf(1) = NOT_FOUND", "workerOf(2) = INVALID_ARGUMENT",
            "workerOf(-1) = INVALID_ARGUMENT");

        tells("## Promise 14: totalFor");
        says("`int totalFor(int workers)`: Returns the least total for some workers alone.");
        due("table 1,4/20;2,9/20", "totalFor(1) = 1", "totalFor(2) = 2", "totalFor(3) = 6");
        says("- `workers`: a set of workers, perhaps empty");
        due("table 1/5;x/6;x/7", "totalFor(0) = 0", "totalFor(4) = 7", "totalFor(5) = 8");
        due("totalFor(0) = 0");
        says("Returns the total; INVALID_ARGUMENT if there is no such worker.");
        due(TWO, "totalFor(3) = 12", "totalFor(4) = INVALID_ARGUMENT", "totalFor(5) = INVALID_ARGUMENT", "totalFor(-1) = INVALID_ARGUMENT",
            "totalFor(" + LEAST_INT + ") = INVALID_ARGUMENT", "totalFor(" + GREATEST_INT + ") = INVALID_ARGUMENT");
    }

    private void promises15To17() {
        tells("## Promise 15: price");
        says("`int price(int task, int what)`: Returns a price of a task.");
        due(TWO, "price(0, 0) = 5", "price(0, 1) = 11", "price(1, 0) = 0", "price(1, 1) = 6");
        says("- `task`: number of the task - `what`: 0: the least one; 1: the greatest one");
        due("table 9,0/10;9,0/20", "price(1, 0) = 9", "price(1, 1) = 10", "price(0, 0) = 0", "price(0, 1) = 1");
        says("Returns the price; INVALID_ARGUMENT if an argument is out of range.");
        due(TWO, "price(-1, 0) = INVALID_ARGUMENT", "price(2, 0) = INVALID_ARGUMENT", "price(0, -1) = INVALID_ARGUMENT",
            "price(0, 2) = INVALID_ARGUMENT", "price(1, 1) = 6");
        due("table 0/10;0/20", "price(0, 0) = 10", "dropWorker(1)", "price(0, 0) = 0");

        tells("## Promise 16: workerIs");
        says("`int workerIs(int worker, int what)`: Returns something of a worker.");
        due(TWO, "workerIs(0, 0) = 8", "workerIs(0, 1) = 3", "workerIs(0, 2) = 0", "workerIs(0, 3) = 8");
        says("- `worker`: number of the worker - `what`: 0: the worth; 1: the tight tasks, as a set; 2: 1 if the worth is the idle cost,"
            + " otherwise 0; 3: by how much less the least total would be without the worker");
        due(TWO, "workerIs(1, 0) = 9", "workerIs(1, 1) = 1", "workerIs(1, 2) = 0", "workerIs(1, 3) = 9");
        due("table 0/10;0/20", "workerIs(0, 0) = 10", "workerIs(0, 1) = 1", "workerIs(0, 2) = 1", "workerIs(0, 3) = 10",
            "workerIs(1, 0) = 10", "workerIs(1, 1) = 1", "workerIs(1, 2) = 0", "workerIs(1, 3) = 10");
        due("table 5/3", "workerIs(0, 1) = 0", "workerIs(0, 2) = 1", "workerIs(0, 3) = 3");
        says("Returns the number; INVALID_ARGUMENT if an argument is out of range.");
        due(TWO, "workerIs(-1, 0) = INVALID_ARGUMENT", "workerIs(2, 0) = INVALID_ARGUMENT", "workerIs(0, -1) = INVALID_ARGUMENT",
            "workerIs(0, 4) = INVALID_ARGUMENT", "workerIs(1, 3) = 9");

        tells("## Promise 17: proof");
        says("`int proof()`: Returns the proof: the sum of all worths less the sum of all least prices.");
        due("table 0/10;0/20", "workerIs(0, 0) = 10", "workerIs(1, 0) = 10", "count(5) = 10", "proof() = 10");
        due(TWO, "proof() = 12");
        says("Returns the number.");
        due("proof() = 0", "worker(5)", "proof() = 5", "task()", "proof() = 5", "cost(0, 0, 2)", "proof() = 2");
    }

    private void promises18To20() {
        tells("## Promise 18: pairOf");
        says("`int pairOf(int worker, int task, int what)`: Returns something of a pair.");
        due(TWO, "pairOf(0, 0, 0) = 0", "pairOf(0, 0, 1) = 0", "pairOf(0, 0, 2) = 6", "pairOf(0, 1, 0) = 1", "pairOf(0, 1, 1) = 1",
            "pairOf(0, 1, 2) = 0");
        says("- `worker`: number of the worker - `task`: number of the task, -1: being idle - `what`: 0: 1 if it is possible, otherwise"
            + " 0; 1: 1 if it is sure, otherwise 0; 2: its regret");
        due("table 5,6/9;x,x/1", "pairOf(0, -1, 0) = 0", "pairOf(0, -1, 1) = 0", "pairOf(0, -1, 2) = 4", "pairOf(1, -1, 0) = 1",
            "pairOf(1, -1, 1) = 1", "pairOf(1, -1, 2) = 0");
        due("table 5,5/5", "pairOf(0, -1, 0) = 1", "pairOf(0, -1, 1) = 0", "pairOf(0, 1, 0) = 1", "pairOf(0, 1, 1) = 0");
        says("Returns the number; INVALID_ARGUMENT if an argument is out of range; NOT_FOUND if the pair is barred.");
        due(TWO, "pairOf(1, 1, 0) = NOT_FOUND", "pairOf(1, 1, 1) = NOT_FOUND", "pairOf(1, 1, 2) = NOT_FOUND",
            "pairOf(2, 0, 0) = INVALID_ARGUMENT", "pairOf(-1, 0, 0) = INVALID_ARGUMENT", "pairOf(0, 2, 0) = INVALID_ARGUMENT",
            "pairOf(0, -2, 0) = INVALID_ARGUMENT", "pairOf(0, 0, -1) = INVALID_ARGUMENT", "pairOf(0, 0, 3) = INVALID_ARGUMENT");

        tells("## Promise 19: room");
        says("`int room(int worker)`: Returns the room of the pair of a worker in the first plan.");
        due("table 0/10;3/10", "taskOf(0) = 0", "room(0) = 3");
        says("- `worker`: number of the worker");
        due("table 5,x/9;x,6/8", "room(0) = 4", "room(1) = 2");
        says("Returns the room; INVALID_ARGUMENT; NOT_FOUND if the worker is idle.");
        due("table 5/4;5/6", "room(0) = NOT_FOUND", "room(1) = 1", "room(2) = INVALID_ARGUMENT", "room(-1) = INVALID_ARGUMENT");

        tells("## Promise 20: dearest");
        says("`int dearest(int what)`: Finds the pair of the first plan that, if it was barred, would make the least total greatest; of"
            + " several the one with the lowest worker (also if it would stay as it is).");
        due("table 1,x,x/5;x,2,x/9;x,x,3/7", "dearest(0) = 1", "dearest(1) = 1", "dearest(2) = 7");
        due("table x,1,x/5;2,x,x/9;x,x,3/10", "dearest(0) = 1", "dearest(1) = 0", "dearest(2) = 7");
        due("table x,5/5;5,x/5", "dearest(0) = 0", "dearest(1) = 1", "dearest(2) = 0");
        says("- `what`: 0: its worker; 1: its task; 2: by how much more");
        due("table 9,9/2;7,9/7;6,5/9", "dearest(0) = 2", "dearest(1) = 1", "dearest(2) = 1");
        says("Returns the number; INVALID_ARGUMENT if what is out of range; NOT_FOUND if the first plan has no pair.");
        due("table 9/0;8/0", "dearest(0) = NOT_FOUND", "dearest(1) = NOT_FOUND", "dearest(2) = NOT_FOUND", "dearest(-1) = INVALID_ARGUMENT",
            "dearest(3) = INVALID_ARGUMENT");
    }

    private void promises21And22() {
        tells("## Promise 21: count");
        says("`int count(int what)`: Returns a number.");
        due(TWO, "count(0) = 2", "count(5) = 5");
        says("- `what`: 0: workers; 1: tasks; 2: pairs that are not barred; 3: workers with a task in the first plan; 4: tight pairs; 5:"
            + " the sum of all least prices; 6: the sum of all greatest prices; 7: states in the history; 8: the length of the text");
        due("table 3,8,x,x/20;4,x,x,x/15;x,x,x,x/1", "type 1,2/3;4,5/", "count(0) = 3", "count(1) = 4", "count(2) = 3", "count(3) = 2",
            "count(4) = 3", "count(5) = 5", "count(6) = 17", "count(7) = 1", "count(8) = 10");
        says("Returns the number; INVALID_ARGUMENT if what is out of range.");
        due("count(0) = 0", "count(8) = 0", "count(-1) = INVALID_ARGUMENT", "count(9) = INVALID_ARGUMENT");

        tells("## Promise 22: undo");
        says("`int undo()`: Restores the latest state of the history, which is removed from it.");
        due("worker(1)", "idle(0, 2)", "idle(0, 3)", "undo()", "costOf(0, -1) = 2", "count(7) = 2", "undo()", "costOf(0, -1) = 1",
            "count(7) = 1", "undo()", "count(0) = 0", "count(7) = 0");
        says("Returns the number of states that are left in the history; NOT_POSSIBLE if it is empty.");
        due("undo() = NOT_POSSIBLE", "worker(1)", "task()", "undo() = 1", "undo() = 0", "undo() = NOT_POSSIBLE");
    }

    private void promises23And24() {
        tells("## Promise 23: type");
        says("`int type(int character)`: Appends a character to the text.");
        due("type(49)", "type(50)", "type(47)", "type(51)", "read() = 3", "costOf(0, 0) = 12", "costOf(0, -1) = 3");
        says("- `character`: 32 to 126");
        due("type(32) = 1", "type(126) = 2");
        says("Returns the length of the text; INVALID_ARGUMENT if character is out of range; LIMIT_REACHED if it has 80 characters.");
        due("type(31) = INVALID_ARGUMENT", "type(127) = INVALID_ARGUMENT", "type(65585) = INVALID_ARGUMENT", "78x type(49)", "type(49) = 79",
            "type(49) = 80", "type(49) = LIMIT_REACHED");

        tells("## Promise 24: clearText");
        says("`int clearText()`: Empties the text.");
        due("type 1/2", "clearText()", "count(8) = 0", "fault(0) = 0", "type 3/4", "read() = 3");
        says("Returns the length it had.");
        due("type 1/2", "clearText() = 3", "clearText() = 0", "80x type(49)", "clearText() = 80");
    }

    private void promises25And26() {
        tells("## Promise 25: fault");
        says("`int fault(int what)`: Tells about the fault of the text as a table.");
        due("type 1,2/3;4/5", "fault(0) = 7", "fault(1) = 2", "clearText()", "type 1,2/a", "fault(0) = 4", "fault(1) = 1");
        says("- `what`: 0: its place; 1: its reason");
        due("type 1,2/3;4/5", "fault(1) = 2", "fault(0) = 7");
        says("Returns that; INVALID_ARGUMENT if what is out of range; NOT_FOUND if the text has no fault.");
        due("fault(-1) = INVALID_ARGUMENT", "fault(2) = INVALID_ARGUMENT", "type 1/2", "fault(0) = NOT_FOUND", "fault(1) = NOT_FOUND");

        tells("## Promise 26: read");
        says("`int read()`: Makes the table that of the text, which stays.");
        due("table 1,2,3/4;5,6,7/8", "type x,9/10;11,0/12", "read()", "count(0) = 2", "count(1) = 2", "costOf(0, 0) = NOT_FOUND",
            "costOf(0, 1) = 9", "costOf(0, -1) = 10", "costOf(1, 0) = 11", "costOf(1, 1) = 0", "costOf(1, -1) = 12", "count(8) = 14",
            "read()", "count(8) = 14");
        says("Returns the least total then; NOT_POSSIBLE if the text has a fault.");
        due("type 3,8/20;4,x/15", "read() = 12", "total() = 12", "type ;", "read() = NOT_POSSIBLE", "total() = 12");
    }

    private void notPromised() {
        tells("## Not promised");
        tells("How the state is held inside the object is free, as are the speed of each call, the text of toString and the behaviour of"
            + " equals and hashCode.");
        tells("Use of one object from several threads at once is not promised to be safe.");
        tells("Nothing is promised beyond the answers and state changes described above, and nothing about an object after its 512th"
            + " call.");
    }
}
