/** The sentences of promises 1 to 10, each with runs of its own that would show it broken: tables and what alters them. */
final class TableEdgesTest {
    private static final Checks CHECKS = new Checks();
    private static final Runs RUNS = new Runs(CHECKS);

    /** Worker w has idle costs of 11 + w and a cost of 1 + w. */
    private static final String SEVEN_ROWS = "table 1/11;2/12;3/13;4/14;5/15;6/16;7/17";
    private static final String SEVEN_ENTRIES = "table 1,2,3,4,5,6,7/9;11,12,x,14,15,16,17/8";

    public static void main(String[] args) {
        newObject();
        worker();
        task();
        dropWorker();
        dropTask();
        cost();
        costAnswers();
        bar();
        idle();
        times();
        timesBeyond();
        costOf();
        CHECKS.finish("TableEdgesTest");
    }

    private static void due(String sentence, String... steps) {
        RUNS.due(sentence, steps);
    }

    private static void newObject() {
        due("the constants");
        CHECKS.due("INVALID_ARGUMENT = -1", PricedPairs.INVALID_ARGUMENT, -1);
        CHECKS.due("NOT_POSSIBLE = -2", PricedPairs.NOT_POSSIBLE, -2);
        CHECKS.due("LIMIT_REACHED = -3", PricedPairs.LIMIT_REACHED, -3);
        CHECKS.due("NOT_FOUND = -4", PricedPairs.NOT_FOUND, -4);
        due("1: without workers", "count(0) = 0", "total() = 0", "totalFor(0) = 0", "proof() = 0", "dropWorker(0) = INVALID_ARGUMENT");
        due("1: without tasks", "count(1) = 0", "count(5) = 0", "count(6) = 0", "dropTask(0) = INVALID_ARGUMENT");
        due("1: without pairs", "count(2) = 0", "count(3) = 0", "count(4) = 0", "dearest(0) = NOT_FOUND",
            "dearest(1) = NOT_FOUND", "dearest(2) = NOT_FOUND");
        due("1: without a history", "count(7) = 0", "undo() = NOT_POSSIBLE");
        due("1: without a text", "count(8) = 0", "clearText() = 0", "fault(0) = 0", "fault(1) = 1", "read() = NOT_POSSIBLE");
        Script other = new Script();
        other.call("worker(5)");
        other.type("1/2");
        due("1: each object is on its own", "count(0) = 0", "count(8) = 0", "count(7) = 0");
    }

    private static void worker() {
        due("2: the least idle cost", "worker(0) = 0", "costOf(0, -1) = 0", "total() = 0");
        due("2: the greatest idle cost", "worker(9999) = 0", "costOf(0, -1) = 9999", "total() = 9999");
        due("2: below the least idle cost", "worker(-1) = INVALID_ARGUMENT", "count(0) = 0");
        due("2: above the greatest idle cost", "worker(10000) = INVALID_ARGUMENT", "count(0) = 0");
        due("2: numbers from 0", "worker(5) = 0", "worker(5) = 1", "worker(5) = 2", "worker(5) = 3", "worker(5) = 4",
            "worker(5) = 5", "worker(5) = 6", "count(0) = 7");
        due("2: an eighth worker", "7x worker(5)", "worker(0) = LIMIT_REACHED", "worker(9999) = LIMIT_REACHED", "count(0) = 7");
        due("2: an eighth worker behind read", SEVEN_ROWS, "worker(5) = LIMIT_REACHED", "costOf(6, -1) = 17");
        due("2: the seventh again", "7x worker(5)", "dropWorker(0) = 6", "worker(6) = 6", "worker(5) = LIMIT_REACHED");
        due("2: the seventh undone", "7x worker(5)", "undo() = 3", "worker(6) = 6", "costOf(6, -1) = 6", "worker(5) = LIMIT_REACHED");
        due("2: 7 tasks are no workers", "7x task()", "worker(5) = 0", "count(1) = 7");
        due("2: all pairs are barred", "7x task()", "worker(5) = 0", "costOf(0, 0) = NOT_FOUND", "costOf(0, 1) = NOT_FOUND",
            "costOf(0, 2) = NOT_FOUND", "costOf(0, 3) = NOT_FOUND", "costOf(0, 4) = NOT_FOUND", "costOf(0, 5) = NOT_FOUND",
            "costOf(0, 6) = NOT_FOUND", "count(2) = 0");
        due("2: all pairs are barred, of one behind others", "table 1,2/3", "worker(5) = 1", "costOf(1, 0) = NOT_FOUND",
            "costOf(1, 1) = NOT_FOUND", "costOf(0, 0) = 1", "costOf(0, 1) = 2", "count(2) = 2");
        due("2: all pairs are barred, where there was a worker", "table 1,2/3;4,5/6", "dropWorker(1) = 1", "worker(7) = 1",
            "costOf(1, 0) = NOT_FOUND", "costOf(1, 1) = NOT_FOUND", "costOf(1, -1) = 7");
        due("2: all pairs are barred, where costs were undone", "worker(9)", "task()", "worker(8)", "cost(1, 0, 3)",
            "undo() = 3", "undo() = 2", "worker(7) = 1", "costOf(1, 0) = NOT_FOUND", "costOf(1, -1) = 7");
        due("2: all pairs are barred, where a table was larger", "table 1,2/3;4,5/6", "table 8/9", "worker(7) = 1", "task() = 1",
            "costOf(0, 1) = NOT_FOUND", "costOf(1, 0) = NOT_FOUND", "costOf(1, 1) = NOT_FOUND", "count(2) = 1");
    }

    private static void task() {
        due("3: numbers from 0", "task() = 0", "task() = 1", "task() = 2", "task() = 3", "task() = 4", "task() = 5", "task() = 6",
            "count(1) = 7");
        due("3: an eighth task", "7x task()", "task() = LIMIT_REACHED", "count(1) = 7");
        due("3: an eighth task, with workers", "7x worker(5)", "7x task()", "task() = LIMIT_REACHED", "count(1) = 7");
        due("3: an eighth task behind read", SEVEN_ENTRIES, "task() = LIMIT_REACHED", "costOf(1, 6) = 17");
        due("3: the seventh again", "7x task()", "dropTask(0) = 6", "task() = 6", "task() = LIMIT_REACHED");
        due("3: the seventh undone", "7x task()", "undo() = 3", "task() = 6", "task() = LIMIT_REACHED");
        due("3: 7 workers are no tasks", "7x worker(5)", "task() = 0", "count(0) = 7");
        due("3: all pairs are barred", "7x worker(5)", "task() = 0", "costOf(0, 0) = NOT_FOUND", "costOf(1, 0) = NOT_FOUND",
            "costOf(2, 0) = NOT_FOUND", "costOf(3, 0) = NOT_FOUND", "costOf(4, 0) = NOT_FOUND", "costOf(5, 0) = NOT_FOUND",
            "costOf(6, 0) = NOT_FOUND", "count(2) = 0", "total() = 35");
        due("3: all pairs are barred, of one behind others", "table 1/3;2/4", "task() = 1", "costOf(0, 1) = NOT_FOUND",
            "costOf(1, 1) = NOT_FOUND", "costOf(0, 0) = 1", "costOf(1, 0) = 2", "count(2) = 2");
        due("3: all pairs are barred, where there was a task", "table 1,2/3;4,5/6", "dropTask(1) = 1", "task() = 1",
            "costOf(0, 1) = NOT_FOUND", "costOf(1, 1) = NOT_FOUND", "count(2) = 2");
        due("3: all pairs are barred, where costs were undone", "worker(9)", "task()", "task()", "cost(0, 1, 3)", "undo() = 3",
            "undo() = 2", "task() = 1", "costOf(0, 1) = NOT_FOUND");
        due("3: all pairs are barred, of a worker made behind a drop", "table 1,2/3;4,5/6", "dropTask(1) = 1", "dropWorker(1) = 1",
            "worker(7) = 1", "task() = 1", "costOf(1, 1) = NOT_FOUND", "costOf(1, 0) = NOT_FOUND", "costOf(0, 1) = NOT_FOUND");
    }

    private static void dropWorker() {
        due("4: the first of 7", SEVEN_ROWS, "dropWorker(0) = 6", "costOf(0, -1) = 12", "costOf(0, 0) = 2", "costOf(1, -1) = 13",
            "costOf(2, -1) = 14", "costOf(3, -1) = 15", "costOf(4, -1) = 16", "costOf(5, -1) = 17", "costOf(5, 0) = 7",
            "costOf(6, -1) = INVALID_ARGUMENT", "count(0) = 6");
        due("4: one amid 7", SEVEN_ROWS, "dropWorker(3) = 6", "costOf(0, 0) = 1", "costOf(1, 0) = 2", "costOf(2, 0) = 3",
            "costOf(2, -1) = 13", "costOf(3, 0) = 5", "costOf(3, -1) = 15", "costOf(4, 0) = 6", "costOf(5, 0) = 7",
            "costOf(6, 0) = INVALID_ARGUMENT");
        due("4: the last of 7", SEVEN_ROWS, "dropWorker(6) = 6", "costOf(0, 0) = 1", "costOf(5, 0) = 6", "costOf(5, -1) = 16",
            "costOf(6, -1) = INVALID_ARGUMENT");
        due("4: behind the last of 7", SEVEN_ROWS, "dropWorker(7) = INVALID_ARGUMENT", "dropWorker(-1) = INVALID_ARGUMENT",
            "count(0) = 7");
        due("4: how many are left", SEVEN_ROWS, "dropWorker(0) = 6", "dropWorker(5) = 5", "dropWorker(2) = 4", "dropWorker(3) = 3",
            "dropWorker(1) = 2", "dropWorker(1) = 1", "dropWorker(0) = 0", "dropWorker(0) = INVALID_ARGUMENT", "total() = 0");
        due("4: the tasks are left", "table 1,2/3;4,5/6", "dropWorker(0) = 1", "dropWorker(0) = 0", "count(1) = 2",
            "price(1, 0) = 0", "price(1, 1) = 0", "workerOf(1) = NOT_FOUND", "count(2) = 0");
        due("4: bars go along", "table 1,x/3;x,5/6;7,x/8", "dropWorker(0) = 2", "costOf(0, 0) = NOT_FOUND", "costOf(0, 1) = 5",
            "costOf(1, 0) = 7", "costOf(1, 1) = NOT_FOUND", "costOf(1, -1) = 8");
        due("4: totals without the worker", "table 1,9/20;2,5/20", "total() = 6", "dropWorker(0) = 1", "total() = 2", "taskOf(0) = 0");
    }

    private static void dropTask() {
        due("5: the first of 7", SEVEN_ENTRIES, "dropTask(0) = 6", "costOf(0, 0) = 2", "costOf(1, 0) = 12", "costOf(0, 1) = 3",
            "costOf(1, 1) = NOT_FOUND", "costOf(1, 2) = 14", "costOf(0, 5) = 7", "costOf(1, 5) = 17",
            "costOf(0, 6) = INVALID_ARGUMENT", "count(1) = 6");
        due("5: one amid 7", SEVEN_ENTRIES, "dropTask(2) = 6", "costOf(0, 0) = 1", "costOf(0, 1) = 2", "costOf(1, 1) = 12",
            "costOf(0, 2) = 4", "costOf(1, 2) = 14", "costOf(1, 5) = 17", "costOf(1, 6) = INVALID_ARGUMENT", "count(2) = 12");
        due("5: the last of 7", SEVEN_ENTRIES, "dropTask(6) = 6", "costOf(0, 0) = 1", "costOf(1, 2) = NOT_FOUND", "costOf(1, 5) = 16",
            "costOf(0, 6) = INVALID_ARGUMENT");
        due("5: behind the last of 7", SEVEN_ENTRIES, "dropTask(7) = INVALID_ARGUMENT", "dropTask(-1) = INVALID_ARGUMENT",
            "count(1) = 7");
        due("5: how many are left", SEVEN_ENTRIES, "dropTask(0) = 6", "dropTask(5) = 5", "dropTask(2) = 4", "dropTask(3) = 3",
            "dropTask(1) = 2", "dropTask(1) = 1", "dropTask(0) = 0", "dropTask(0) = INVALID_ARGUMENT", "total() = 17");
        due("5: the workers and their idle costs are left", "table 1,2/3;4,5/6", "dropTask(0) = 1", "dropTask(0) = 0", "count(0) = 2",
            "costOf(0, -1) = 3", "costOf(1, -1) = 6", "total() = 9");
        due("5: totals without the task", "table 1,9/20;2,5/20", "total() = 6", "dropTask(0) = 1", "total() = 25", "taskOf(0) = NOT_FOUND",
            "taskOf(1) = 0");
        due("5: without workers", "7x task()", "dropTask(6) = 6", "dropTask(0) = 5", "count(1) = 5");
    }

    private static void cost() {
        due("6: which is not barred then", "worker(5)", "task()", "costOf(0, 0) = NOT_FOUND", "cost(0, 0, 0) = 99995",
            "costOf(0, 0) = 0", "count(2) = 1");
        due("6: a pair barred by bar", "table 3/5", "bar(0, 0) = 2", "cost(0, 0, 4) = 99999", "costOf(0, 0) = 4");
        due("6: the least cost", "table 3/5", "cost(0, 0, 0) = 99997", "costOf(0, 0) = 0");
        due("6: the greatest cost", "table 3/5", "cost(0, 0, 9999) = 100002", "costOf(0, 0) = 9999");
        due("6: below the least cost", "table 3/5", "cost(0, 0, -1) = INVALID_ARGUMENT", "costOf(0, 0) = 3");
        due("6: above the greatest cost", "table 3/5", "cost(0, 0, 10000) = INVALID_ARGUMENT", "costOf(0, 0) = 3");
        due("6: only that pair", "table 1,2/3;4,5/6", "cost(1, 0, 9) = 100000", "costOf(0, 0) = 1", "costOf(0, 1) = 2",
            "costOf(1, 0) = 9", "costOf(1, 1) = 5", "costOf(0, -1) = 3", "costOf(1, -1) = 6");
        due("6: the last of 7 and 7", "square 7 20 30", "cost(6, 6, 3) = 99983", "costOf(6, 6) = 3", "cost(6, 7, 3) = INVALID_ARGUMENT",
            "cost(7, 6, 3) = INVALID_ARGUMENT");
        due("6: -1 is no task of a cost", "table 3/5", "cost(0, -1, 4) = INVALID_ARGUMENT", "costOf(0, -1) = 5");
    }

    private static void costAnswers() {
        due("6: plus 100000, none more", "table 3/5", "cost(0, 0, 3) = 100000", "total() = 3");
        due("6: plus 100000, the most", "table 0/9999", "cost(0, 0, 9999) = 109999", "total() = 9999");
        due("6: plus 100000, the least", "table x/9999", "cost(0, 0, 0) = 90001", "total() = 0");
        due("6: more by it, up to the idle cost", "table 3/5", "cost(0, 0, 5) = 100002", "cost(0, 0, 6) = 100000", "total() = 5");
        due("6: more by it, up to another plan", "table 1,4/20;2,9/20", "total() = 6", "cost(1, 0, 8) = 100004", "total() = 10");
        due("6: more by it, of a pair in no least plan", "table 1,4/20", "cost(0, 1, 9999) = 100000", "cost(0, 1, 1) = 100000",
            "cost(0, 1, 0) = 99999");
    }

    private static void bar() {
        due("7: bars", "table 3/5", "bar(0, 0) = 2", "costOf(0, 0) = NOT_FOUND", "count(2) = 0", "total() = 5");
        due("7: it is barred", "table 3/5", "bar(0, 0) = 2", "bar(0, 0) = NOT_POSSIBLE", "total() = 5");
        due("7: barred from the first", "worker(5)", "task()", "bar(0, 0) = NOT_POSSIBLE");
        due("7: barred by the text", "table 3,x/5", "bar(0, 1) = NOT_POSSIBLE", "bar(0, 0) = 2");
        due("7: a cost of 0 is not barred", "table 0/5", "bar(0, 0) = 5");
        due("7: the most that it may be more", "table 0/9999", "bar(0, 0) = 9999");
        due("7: not more, of a pair in no least plan", "table 3,4/5", "bar(0, 1) = 0", "total() = 3");
        due("7: not more, of a pair in some least plan", "table 3,3/5", "bar(0, 0) = 0", "taskOf(0) = 1", "bar(0, 1) = 2");
        due("7: more, up to another plan", "table 1,4/20;2,9/20", "bar(1, 0) = 4", "taskOf(0) = 0", "taskOf(1) = 1");
        due("7: only that pair", "table 1,2/3;4,5/6", "bar(0, 1) = 0", "costOf(0, 0) = 1", "costOf(1, 0) = 4", "costOf(1, 1) = 5",
            "count(2) = 3");
        due("7: all of 7 and 7", "square 7 20 30", "bar(6, 6) = 0", "bar(6, 7) = INVALID_ARGUMENT", "bar(7, 6) = INVALID_ARGUMENT",
            "count(2) = 48");
        due("7: -1 is no task of a bar", "table 3/5", "bar(0, -1) = INVALID_ARGUMENT", "count(2) = 1");
    }

    private static void idle() {
        due("8: what it was", "worker(7)", "idle(0, 8) = 7", "idle(0, 9) = 8", "costOf(0, -1) = 9");
        due("8: the least", "worker(7)", "idle(0, 0) = 7", "costOf(0, -1) = 0", "total() = 0", "idle(0, 5) = 0");
        due("8: the greatest", "worker(7)", "idle(0, 9999) = 7", "costOf(0, -1) = 9999", "total() = 9999", "idle(0, 5) = 9999");
        due("8: below the least", "worker(7)", "idle(0, -1) = INVALID_ARGUMENT", "costOf(0, -1) = 7");
        due("8: above the greatest", "worker(7)", "idle(0, 10000) = INVALID_ARGUMENT", "costOf(0, -1) = 7");
        due("8: only of that worker", SEVEN_ROWS, "idle(6, 1) = 17", "costOf(5, -1) = 16", "costOf(6, -1) = 1", "costOf(6, 0) = 7",
            "idle(0, 2) = 11", "costOf(1, -1) = 12");
        due("8: totals by it", "table 5/7", "total() = 5", "idle(0, 4) = 7", "total() = 4", "taskOf(0) = NOT_FOUND", "idle(0, 5) = 4",
            "total() = 5", "taskOf(0) = 0");
    }

    private static void times() {
        due("9: a factor of 0", "table 3,x,7/4;5,6,7/8", "times(0, 0) = 0", "costOf(0, 0) = 0", "costOf(0, 1) = NOT_FOUND",
            "costOf(0, 2) = 0", "costOf(0, -1) = 0", "costOf(1, 0) = 5", "costOf(1, -1) = 8");
        due("9: a factor of 1", "table 3,x,7/4", "times(0, 1) = 7", "costOf(0, 0) = 3", "costOf(0, 1) = NOT_FOUND", "costOf(0, -1) = 4");
        due("9: a factor of 2", "table 3,x,7/4;5,6,7/8", "times(0, 2) = 14", "costOf(0, 0) = 6", "costOf(0, 1) = NOT_FOUND",
            "costOf(0, 2) = 14", "costOf(0, -1) = 8", "costOf(1, 0) = 5", "costOf(1, 1) = 6", "costOf(1, 2) = 7", "costOf(1, -1) = 8");
        due("9: the idle one too", "worker(3)", "times(0, 3333) = 9999", "costOf(0, -1) = 9999");
        due("9: the greatest of them, the idle one", "table 3,2/5", "times(0, 10) = 50");
        due("9: the greatest of them, the first pair", "table 9,2/5", "times(0, 10) = 90");
        due("9: the greatest of them, the last pair", "table 3,9/5", "times(0, 10) = 90");
        due("9: the greatest of them, all barred", "table x,x/5", "times(0, 10) = 50", "costOf(0, 0) = NOT_FOUND");
        due("9: the greatest of them, not of other workers", "table 3/5;9/9", "times(0, 2) = 10", "times(1, 2) = 18");
        due("9: the last worker and the last task of 7", "square 7 20 30", "cost(6, 6, 40)", "times(6, 2) = 80", "costOf(6, 6) = 80",
            "costOf(6, 0) = 40", "costOf(6, -1) = 60", "costOf(5, 6) = 20");
        due("9: a factor of 2000000000 of zeros", "table 0,x,0/0", "times(0, 2000000000) = 0", "costOf(0, 0) = 0",
            "costOf(0, 1) = NOT_FOUND", "costOf(0, -1) = 0");
        due("9: a factor of 2000000000, all barred", "table x/0", "times(0, 2000000000) = 0", "costOf(0, 0) = NOT_FOUND");
        due("9: totals by it", "table 3/20;4/30", "total() = 24", "times(1, 0) = 0", "total() = 3", "times(0, 10) = 200", "total() = 30");
    }

    private static void timesBeyond() {
        due("9: above 9999, by one pair alone", "table 1,2/1", "times(0, 4999) = 9998", "table 1,2/1", "times(0, 5000) = LIMIT_REACHED",
            "costOf(0, 0) = 1", "costOf(0, 1) = 2", "costOf(0, -1) = 1");
        due("9: above 9999, by the idle cost alone", "table 1,1/2", "times(0, 5000) = LIMIT_REACHED", "costOf(0, 0) = 1",
            "costOf(0, -1) = 2", "times(0, 4999) = 9998");
        due("9: just 9999", "worker(1)", "times(0, 9999) = 9999", "times(0, 1) = 9999", "times(0, 2) = LIMIT_REACHED", "times(0, 0) = 0");
        due("9: just above 9999", "worker(1)", "times(0, 10000) = LIMIT_REACHED", "costOf(0, -1) = 1");
        due("9: 2000000000 of 1", "worker(1)", "times(0, 2000000000) = LIMIT_REACHED", "costOf(0, -1) = 1");
        due("9: 2000000000 of 9999", "worker(9999)", "times(0, 2000000000) = LIMIT_REACHED", "costOf(0, -1) = 9999");
        due("9: a product that is 2 in 32 bits", "worker(3)", "times(0, 1431655766) = LIMIT_REACHED", "costOf(0, -1) = 3");
        due("9: a product that is 0 in 32 bits", "worker(4)", "times(0, 1073741824) = LIMIT_REACHED", "costOf(0, -1) = 4");
        due("9: a product that is below 0 in 32 bits", "worker(2)", "times(0, 2000000000) = LIMIT_REACHED", "costOf(0, -1) = 2");
        due("9: a factor below 0", "worker(0)", "times(0, -1) = INVALID_ARGUMENT");
        due("9: a factor above 2000000000", "worker(0)", "times(0, 2000000001) = INVALID_ARGUMENT");
    }

    private static void costOf() {
        due("10: the cost", "table 0,9999/1;x,2/3", "costOf(0, 0) = 0", "costOf(0, 1) = 9999", "costOf(1, 1) = 2");
        due("10: -1: the idle cost", "table 0,9999/1;x,2/3", "costOf(0, -1) = 1", "costOf(1, -1) = 3", "costOf(0, -2) = INVALID_ARGUMENT");
        due("10: the pair is barred", "table 0,9999/1;x,2/3", "costOf(1, 0) = NOT_FOUND");
        due("10: being idle is not barred", "worker(8)", "costOf(0, -1) = 8", "task()", "costOf(0, -1) = 8");
        due("10: behind the last", "table 1,2/3", "costOf(0, 2) = INVALID_ARGUMENT", "costOf(1, 0) = INVALID_ARGUMENT",
            "costOf(1, -1) = INVALID_ARGUMENT", "costOf(-1, 0) = INVALID_ARGUMENT");
    }

    private TableEdgesTest() {
    }
}
