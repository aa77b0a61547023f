/** The sentences of "Terms", and of promises 11 to 21, each with runs of its own: plans, prices, changes of costs, counts. */
final class PlanEdgesTest {
    private static final Checks CHECKS = new Checks();
    private static final Runs RUNS = new Runs(CHECKS);

    private static final String[] WORKERS_WITHOUT_TASKS = {"7x worker(9999)"};
    private static final String[] TASKS_WITHOUT_WORKERS = {"7x task()"};
    private static final String[] ALL_BARRED = {"7x worker(9999)", "7x task()"};
    /** Task 0 is for all workers, for nothing; worker w stays idle for 1000 * (w + 1); nobody may have the other tasks. */
    private static final String[] ONE_FOR_ALL = {
        "table 0,x,x,x,x,x,x/1000;0,x,x,x,x,x,x/2000;0,x,x,x,x,x,x/3000", "worker(4000)", "worker(5000)", "worker(6000)",
        "worker(7000)", "cost(3, 0, 0)", "cost(4, 0, 0)", "cost(5, 0, 0)", "cost(6, 0, 0)"
    };

    public static void main(String[] args) {
        plans();
        firstPlan();
        totals();
        totalsOfSome();
        prices();
        worths();
        tightPairs();
        withoutWorker();
        proofs();
        possibleAndSure();
        regrets();
        rooms();
        dearest();
        counts();
        withoutTasks();
        withoutWorkers();
        allBarred();
        allAlike("0", "0", "0");
        allAlike("9999", "9999", "69993");
        CHECKS.finish("PlanEdgesTest");
    }

    private static void due(String sentence, String... steps) {
        RUNS.due(sentence, steps);
    }

    private static void due(String sentence, String[] setup, String... steps) {
        String[] all = new String[setup.length + steps.length];
        System.arraycopy(setup, 0, all, 0, setup.length);
        System.arraycopy(steps, 0, all, setup.length, steps.length);
        RUNS.due(sentence, all);
    }

    private static void plans() {
        due("a plan gives each worker a task or none", "table 5/3", "total() = 3", "taskOf(0) = NOT_FOUND", "workerOf(0) = NOT_FOUND");
        due("a plan has no barred pair", "table x,9999/9999", "total() = 9999", "taskOf(0) = 1", "workerOf(0) = NOT_FOUND");
        due("a plan has no barred pair, though it is dear", "table x/9999", "total() = 9999", "taskOf(0) = NOT_FOUND");
        due("no task to two workers", "table 0/10;0/20", "total() = 10", "taskOf(0) = NOT_FOUND", "taskOf(1) = 0", "workerOf(0) = 1");
        due("no task to two workers, of 7", "table 0/1;0/2;0/3;0/4;0/5;0/6;0/7", "total() = 21", "taskOf(6) = 0", "count(3) = 1");
        due("a worker has one task at most", "table 0,0,0/9", "total() = 0", "count(3) = 1", "workerOf(1) = NOT_FOUND");
        due("its total is the sum of pairs and of idle costs", "table 1,x/90;x,20/90;x,x/300", "total() = 321");
        due("idle costs only of workers without a task", "table 1/9999;2/5", "total() = 6");
        due("the least total is that of all plans", "table 1,2/99;1,9/99", "total() = 3", "taskOf(0) = 1", "taskOf(1) = 0");
        due("the least total leaves even a cheap pair out", "table 1,2,x/50;x,1,2/50;1,x,9/50", "total() = 5", "taskOf(0) = 1",
            "taskOf(1) = 2", "taskOf(2) = 0");
    }

    private static void firstPlan() {
        due("a lower task first", "table 5,5/9", "taskOf(0) = 0", "workerOf(1) = NOT_FOUND");
        due("a lower task first, of 7", "table 9,8,7,5,6,5,5/9", "taskOf(0) = 3");
        due("none last", "table 5/5", "taskOf(0) = 0", "count(3) = 1");
        due("none last, behind the last task", "table 6,5/5", "taskOf(0) = 1", "count(3) = 1");
        due("none last, of 0", "table 0/0", "taskOf(0) = 0");
        due("from the worker 0 on", "table 5,5/9;5,5/9", "taskOf(0) = 0", "taskOf(1) = 1");
        due("from the worker 0 on, whatever the others have then", "table 5,5/9;5,x/5", "taskOf(0) = 0", "taskOf(1) = NOT_FOUND");
        due("from the worker 0 on, none last", "table 5/5;5/5", "taskOf(0) = 0", "taskOf(1) = NOT_FOUND", "workerOf(0) = 0");
        due("the next worker behind worker 0", "table 1,x,x/9;x,5,5/9;x,5,5/9", "taskOf(1) = 1", "taskOf(2) = 2");
        due("one of those with the least total", "table 5,4/9", "taskOf(0) = 1");
        due("one of those with the least total, by another worker", "table 5,5/9;4,5/9", "taskOf(0) = 1", "taskOf(1) = 0");
        due("12: the worker is idle", "table 5/4", "taskOf(0) = NOT_FOUND");
        due("12: the first and the last of 7", "square 7 20 30", "taskOf(0) = 0", "taskOf(6) = 6", "taskOf(7) = INVALID_ARGUMENT");
        due("13: nobody has it", "table 5,6/7", "workerOf(1) = NOT_FOUND");
        due("13: the first and the last of 7", "square 7 20 30", "workerOf(0) = 0", "workerOf(6) = 6", "workerOf(7) = INVALID_ARGUMENT");
        due("13: the last task, of worker 0", "table x,x,x,x,x,x,1/9;1,x,x,x,x,x,2/9", "workerOf(6) = 0", "workerOf(0) = 1");
    }

    private static void totals() {
        due("11: 0 without workers", "total() = 0", "task()", "total() = 0");
        due("11: 0 without workers that were dropped", "worker(5)", "dropWorker(0) = 0", "total() = 0");
        due("11: the least", "7x worker(0)", "total() = 0");
        due("11: the greatest", WORKERS_WITHOUT_TASKS, "total() = 69993");
        due("11: the greatest by pairs", "square 7 9999 9999", "total() = 69993", "count(3) = 7");
    }

    private static void totalsOfSome() {
        due("14: perhaps empty", "table 1/5;2/6", "totalFor(0) = 0");
        due("14: bit k is for number k", "table 1/5;x/6;x/7", "totalFor(1) = 1", "totalFor(2) = 6", "totalFor(4) = 7", "totalFor(5) = 8",
            "totalFor(6) = 13", "totalFor(7) = 14");
        due("14: for some workers alone, without the others", "table 1,4/20;2,9/20", "totalFor(1) = 1", "totalFor(2) = 2",
            "totalFor(3) = 6", "total() = 6");
        due("14: bits up to the last of 7", "table 1/11;2/12;3/13;4/14;5/15;6/16;7/17", "totalFor(64) = 7", "totalFor(127) = 88",
            "totalFor(96) = 23");
        due("14: there is no such worker", "table 1/5;2/6", "totalFor(4) = INVALID_ARGUMENT", "totalFor(7) = INVALID_ARGUMENT",
            "totalFor(-1) = INVALID_ARGUMENT", "totalFor(-2147483648) = INVALID_ARGUMENT", "totalFor(2147483647) = INVALID_ARGUMENT");
        due("14: there is no such worker, behind 7", "square 7 20 30", "totalFor(127) = 140", "totalFor(128) = INVALID_ARGUMENT");
        due("14: the plans stay", "table 1,4/20;2,9/20", "totalFor(1) = 1", "taskOf(0) = 1", "taskOf(1) = 0", "totalFor(0) = 0",
            "total() = 6", "price(0, 0) = 3");
    }

    private static void prices() {
        due("the least price: of one worker", "table 0/9999", "price(0, 0) = 0");
        due("the least price: another task with the same costs", "table 0/10;0/20", "price(0, 0) = 10");
        due("the least price: the most", "table 0/9999;0/9999", "price(0, 0) = 9999");
        due("the least price: another task with the same bars", "table 0/10;x/20", "price(0, 0) = 0");
        due("the least price: one more task alone", "table 0/10;0/20;0/30", "price(0, 0) = 20");
        due("the least price: up to another task's cost", "table 3,8/20;4,x/15", "price(0, 0) = 5", "price(1, 0) = 0");
        due("the least price: for one who has the task's like in exchange", "table 1,4/20;2,9/20", "price(0, 0) = 3", "price(1, 0) = 0");
        due("the least price: of a task that nobody has", "table 9/5", "price(0, 0) = 0");
        due("the least price: one more than 7 tasks", ONE_FOR_ALL, "count(1) = 7", "price(0, 0) = 6000", "price(6, 0) = 0");
        due("the greatest price: of one worker", "table 0/9999", "price(0, 1) = 9999");
        due("the greatest price: without it", "table 0/10;0/20", "price(0, 1) = 20");
        due("the greatest price: up to another task", "table 3,8/20;4,x/15", "price(0, 1) = 11", "price(1, 1) = 6");
        due("the greatest price: of a task that nobody has", "table 9/5", "price(0, 1) = 0");
        due("the greatest price: of a task in some least plans", "table 5,5/9", "price(0, 1) = 0", "price(1, 1) = 0");
        due("the greatest price: of 7 tasks", ONE_FOR_ALL, "price(0, 1) = 7000", "price(6, 1) = 0");
        due("both are 0 or more: barred", "table x/5", "price(0, 0) = 0", "price(0, 1) = 0");
        due("both are 0 or more: dearer than being idle", "table 9999/0", "price(0, 0) = 0", "price(0, 1) = 0");
        due("both are 0 or more: no workers", "task()", "price(0, 0) = 0", "price(0, 1) = 0");
        due("15: prices of the present table, the first task", "table 0/10;0/20", "price(0, 0) = 10", "idle(0, 0) = 10", "price(0, 0) = 0",
            "count(5) = 0", "proof() = 0", "undo() = 1", "price(0, 0) = 10", "proof() = 10", "dropWorker(1) = 1", "price(0, 0) = 0");
        due("15: prices of the present table, the last task", "table x,0/10;x,0/20", "price(1, 0) = 10", "dropWorker(1) = 1",
            "price(1, 0) = 0", "workerIs(0, 0) = 0", "undo() = 1", "price(1, 0) = 10", "bar(0, 1)", "price(1, 0) = 0", "price(1, 1) = 20");
        due("15: behind the last task", "table 1,2/9", "price(2, 0) = INVALID_ARGUMENT", "price(2, 1) = INVALID_ARGUMENT");
        due("15: neither 0 nor 1", "table 1,2/9", "price(0, 2) = INVALID_ARGUMENT", "price(0, -1) = INVALID_ARGUMENT");
        due("15: prices stay, one behind the other", "table 3,8/20;4,x/15", "price(0, 0) = 5", "price(0, 1) = 11", "price(0, 0) = 5",
            "total() = 12", "price(1, 1) = 6", "price(1, 0) = 0");
    }

    private static void worths() {
        due("the worth: its cost plus the least price", "table 0/10;0/20", "workerIs(1, 0) = 10");
        due("the worth: the idle cost", "table 5/3", "workerIs(0, 0) = 3");
        due("the worth: the least one of more pairs", "table 3,8/20;4,x/15", "workerIs(0, 0) = 8", "workerIs(1, 0) = 9");
        due("the worth: not of a barred pair", "table x/9999", "workerIs(0, 0) = 9999");
        due("the worth: without tasks", "worker(7)", "workerIs(0, 0) = 7");
        due("the worth: the least", "table 0/9999", "workerIs(0, 0) = 0");
        due("16: 1 if the worth is the idle cost", "table 5/3", "workerIs(0, 2) = 1");
        due("16: otherwise 0", "table 3/5", "workerIs(0, 2) = 0");
        due("16: 1 if the worth is the idle cost, of one with a task", "table 5/5", "taskOf(0) = 0", "workerIs(0, 2) = 1");
        due("16: 1 if the worth is the idle cost, by the price", "table 0/10;0/20", "workerIs(0, 2) = 1", "workerIs(1, 2) = 0");
        due("16: 1 without tasks", "worker(7)", "workerIs(0, 2) = 1");
    }

    private static void tightPairs() {
        due("16: the tight tasks, as a set: bit k", "table 9,5,9,5,9,9,5/9", "workerIs(0, 1) = 74", "count(4) = 3");
        due("16: the tight tasks: none", "table 5/3", "workerIs(0, 1) = 0", "count(4) = 0");
        due("16: the tight tasks: all of 7", "table 5,5,5,5,5,5,5/5", "workerIs(0, 1) = 127", "count(4) = 7");
        due("tight: it is not barred", "table x,5/5", "workerIs(0, 1) = 2");
        due("tight: not by its cost alone", "table 3,8/20;4,x/15", "workerIs(0, 1) = 3", "workerIs(1, 1) = 1", "count(4) = 3");
        due("tight: in no least plan's hands", "table 0/10;0/20", "workerIs(0, 1) = 1", "workerIs(1, 1) = 1", "count(4) = 2");
        due("tight: without tasks", "worker(5)", "workerIs(0, 1) = 0");
    }

    private static void withoutWorker() {
        due("16: less without the worker, his own cost", "table 3/5", "workerIs(0, 3) = 3");
        due("16: less without the worker, who is idle", "table 5/3", "workerIs(0, 3) = 3");
        due("16: less without the worker, whose task another one takes then", "table 0/10;0/20", "workerIs(1, 3) = 10", "workerIs(0, 3) = 10");
        due("16: less without the worker: nothing", "table 0/9999", "workerIs(0, 3) = 0");
        due("16: less without the worker: the most", WORKERS_WITHOUT_TASKS, "workerIs(0, 3) = 9999", "workerIs(6, 3) = 9999");
        due("16: less without the worker: the first and the last of 7", ONE_FOR_ALL, "workerIs(0, 3) = 1000", "workerIs(6, 3) = 6000");
    }

    private static void proofs() {
        due("the sum of worths less the sum of least prices is the least total", "table 3,8/20;4,x/15", "proof() = 12", "total() = 12");
        due("17: less the prices", "table 0/10;0/20", "workerIs(0, 0) = 10", "workerIs(1, 0) = 10", "price(0, 0) = 10", "proof() = 10");
        due("17: of 7", ONE_FOR_ALL, "proof() = 21000", "total() = 21000");
        due("17: without workers", TASKS_WITHOUT_WORKERS, "proof() = 0");
        due("17: the greatest", WORKERS_WITHOUT_TASKS, "proof() = 69993");
    }

    private static void possibleAndSure() {
        due("possible: in some least plan", "table 5,5/9", "pairOf(0, 0, 0) = 1", "pairOf(0, 1, 0) = 1", "pairOf(0, -1, 0) = 0");
        due("possible: in no least plan", "table 5,6/9", "pairOf(0, 1, 0) = 0");
        due("possible: being idle", "table 5/5", "pairOf(0, -1, 0) = 1", "pairOf(0, 0, 0) = 1");
        due("possible: not in the first plan", "table 5/5;5/5", "pairOf(1, 0, 0) = 1", "workerOf(0) = 0");
        due("sure: in all least plans", "table 5,6/9", "pairOf(0, 0, 1) = 1", "pairOf(0, 1, 1) = 0", "pairOf(0, -1, 1) = 0");
        due("sure: not if another one has the least total too", "table 5,5/9", "pairOf(0, 0, 1) = 0", "pairOf(0, 1, 1) = 0");
        due("sure: not if being idle has the least total too", "table 5/5", "pairOf(0, 0, 1) = 0", "pairOf(0, -1, 1) = 0");
        due("sure: being idle", "table 5/4", "pairOf(0, -1, 1) = 1", "pairOf(0, -1, 0) = 1");
        due("sure: being idle, as nothing else is left", "worker(9999)", "pairOf(0, -1, 1) = 1", "task()", "pairOf(0, -1, 1) = 1");
        due("sure: though the other workers have a choice", "table 1,9,9/9;9,5,5/9", "pairOf(0, 0, 1) = 1", "pairOf(1, 1, 1) = 0");
        due("18: the pair is barred", "table x,5/9", "pairOf(0, 0, 0) = NOT_FOUND", "pairOf(0, 0, 1) = NOT_FOUND",
            "pairOf(0, 0, 2) = NOT_FOUND");
        due("18: the last of 7 and 7", "square 7 20 30", "pairOf(6, 6, 0) = 1", "pairOf(6, 6, 1) = 0", "pairOf(6, 6, 2) = 0",
            "pairOf(6, -1, 2) = 10");
    }

    private static void regrets() {
        due("the regret: of a pair in a least plan", "table 5,6/9", "pairOf(0, 0, 2) = 0");
        due("the regret: of another pair", "table 5,6/9", "pairOf(0, 1, 2) = 1");
        due("the regret: of being idle", "table 5,6/9", "pairOf(0, -1, 2) = 4");
        due("the regret: the others have other tasks then", "table 1,4/20;2,9/20", "pairOf(0, 0, 2) = 4", "pairOf(1, 1, 2) = 4",
            "pairOf(0, 1, 2) = 0", "pairOf(0, -1, 2) = 16");
        due("the regret: the last of 7 tasks, which another one has", "table x,x,x,x,x,x,0/10;x,x,x,x,x,x,0/20", "total() = 10",
            "pairOf(0, 6, 2) = 10", "pairOf(0, 6, 0) = 0", "pairOf(0, -1, 2) = 0", "pairOf(1, -1, 2) = 10", "room(1) = 10");
        due("the regret: the most of one worker", "table 0,9999/9999", "pairOf(0, 1, 2) = 9999", "pairOf(0, -1, 2) = 9999");
        due("the regret: above 9999", "table 0,0/9999;0,x/9999", "pairOf(0, 0, 2) = 9999", "table 9999,0/9999;0,x/9999",
            "pairOf(0, 0, 2) = 19998");
    }

    private static void rooms() {
        due("the room: up to being idle", "table 5/9", "room(0) = 4");
        due("the room: up to another task", "table 5,7/9", "room(0) = 2");
        due("the room: up to another worker", "table 0/10;3/10", "room(0) = 3");
        due("the room: 0 if another least plan is without it", "table 5,5/9", "room(0) = 0");
        due("the room: 0 if being idle has the least total too", "table 5/5", "room(0) = 0");
        due("the room: the most", "table 0/9999", "room(0) = 9999");
        due("the room: with this pair barred, the others have other tasks", "table 3,8/20;4,x/15", "room(0) = 6", "room(1) = 6");
        due("19: the worker is idle", "table 5/4", "room(0) = NOT_FOUND");
        due("19: the worker is idle, without tasks", WORKERS_WITHOUT_TASKS, "room(6) = NOT_FOUND", "room(7) = INVALID_ARGUMENT");
        due("19: the table stays", "table 5,7/9", "room(0) = 2", "costOf(0, 0) = 5", "total() = 5", "taskOf(0) = 0", "count(7) = 1");
    }

    private static void dearest() {
        due("20: the greatest room", "table 1,x,x/5;x,2,x/9;x,x,3/7", "dearest(0) = 1", "dearest(1) = 1", "dearest(2) = 7");
        due("20: the lowest worker of several", "table x,1,x/5;2,x,x/9;x,x,3/10", "dearest(0) = 1", "dearest(1) = 0", "dearest(2) = 7");
        due("20: also if it would stay as it is", "table x,5/5;5,x/5", "dearest(0) = 0", "dearest(1) = 1", "dearest(2) = 0");
        due("20: idle workers have no pair", "table 9/0;1/9", "dearest(0) = 1", "dearest(1) = 0", "dearest(2) = 8");
        due("20: the first plan has no pair", "table 9/0;8/0", "dearest(0) = NOT_FOUND", "dearest(1) = NOT_FOUND", "dearest(2) = NOT_FOUND");
        due("20: the last worker with the last task", "square 7 20 30", "cost(6, 6, 5)", "dearest(0) = 6", "dearest(1) = 6",
            "dearest(2) = 15");
        due("20: by how much more, the most", "table 0/9999", "dearest(2) = 9999");
        due("20: the table stays", "table 5,7/9", "dearest(2) = 2", "costOf(0, 0) = 5", "count(2) = 2", "total() = 5", "count(7) = 1");
    }

    private static void counts() {
        String[] setup = {"table 3,8,x/20;4,x,x/15;x,x,x/1", "type 1,"};
        due("21: 0: workers", setup, "count(0) = 3");
        due("21: 1: tasks", "table 3,8/20", "count(1) = 2", "count(0) = 1");
        due("21: 2: pairs that are not barred", setup, "count(2) = 3");
        due("21: 3: workers with a task in the first plan", setup, "count(3) = 2");
        due("21: 4: tight pairs", setup, "count(4) = 3");
        due("21: 5: the sum of all least prices", setup, "count(5) = 5");
        due("21: 6: the sum of all greatest prices", setup, "count(6) = 17");
        due("21: 7: states in the history", setup, "count(7) = 1", "idle(2, 2)", "count(7) = 2");
        due("21: 8: the length of the text", setup, "count(8) = 2");
        due("21: -1 and 9", setup, "count(-1) = INVALID_ARGUMENT", "count(9) = INVALID_ARGUMENT");
        due("21: sums of 7 prices", "table 0,0,0,0,0,0,0/9999;0,x,x,x,x,x,x/1;x,x,x,x,x,x,0/1", "count(5) = 0", "count(6) = 2",
            "table 0,x/50;x,0/60;0,0/70;0,0/80", "price(0, 0) = 60", "price(1, 0) = 60", "count(5) = 120", "count(6) = 140");
    }

    private static void withoutTasks() {
        due("workers without tasks: plans", WORKERS_WITHOUT_TASKS, "total() = 69993", "totalFor(127) = 69993", "totalFor(1) = 9999",
            "taskOf(0) = NOT_FOUND", "taskOf(6) = NOT_FOUND", "workerOf(0) = INVALID_ARGUMENT");
        due("workers without tasks: prices", WORKERS_WITHOUT_TASKS, "proof() = 69993", "price(0, 0) = INVALID_ARGUMENT",
            "workerIs(6, 0) = 9999", "workerIs(6, 1) = 0", "workerIs(6, 2) = 1", "workerIs(6, 3) = 9999");
        due("workers without tasks: pairs", WORKERS_WITHOUT_TASKS, "pairOf(6, -1, 0) = 1", "pairOf(6, -1, 1) = 1", "pairOf(6, -1, 2) = 0",
            "pairOf(6, 0, 0) = INVALID_ARGUMENT", "room(6) = NOT_FOUND", "dearest(0) = NOT_FOUND");
        due("workers without tasks: counts", WORKERS_WITHOUT_TASKS, "count(0) = 7", "count(1) = 0", "count(2) = 0", "count(3) = 0",
            "count(4) = 0", "count(5) = 0", "count(6) = 0");
    }

    private static void withoutWorkers() {
        due("tasks without workers: plans", TASKS_WITHOUT_WORKERS, "total() = 0", "totalFor(0) = 0", "totalFor(1) = INVALID_ARGUMENT",
            "taskOf(0) = INVALID_ARGUMENT", "workerOf(0) = NOT_FOUND", "workerOf(6) = NOT_FOUND");
        due("tasks without workers: prices", TASKS_WITHOUT_WORKERS, "price(6, 0) = 0", "price(6, 1) = 0", "proof() = 0",
            "workerIs(0, 0) = INVALID_ARGUMENT");
        due("tasks without workers: pairs", TASKS_WITHOUT_WORKERS, "pairOf(0, 0, 0) = INVALID_ARGUMENT", "room(0) = INVALID_ARGUMENT",
            "dearest(0) = NOT_FOUND", "dearest(1) = NOT_FOUND", "dearest(2) = NOT_FOUND");
        due("tasks without workers: counts", TASKS_WITHOUT_WORKERS, "count(0) = 0", "count(1) = 7", "count(2) = 0", "count(3) = 0",
            "count(4) = 0", "count(5) = 0", "count(6) = 0");
    }

    private static void allBarred() {
        due("all pairs barred: plans", ALL_BARRED, "total() = 69993", "totalFor(127) = 69993", "totalFor(64) = 9999",
            "taskOf(0) = NOT_FOUND", "taskOf(6) = NOT_FOUND", "workerOf(0) = NOT_FOUND", "workerOf(6) = NOT_FOUND");
        due("all pairs barred: prices", ALL_BARRED, "price(0, 0) = 0", "price(6, 0) = 0", "price(0, 1) = 0", "price(6, 1) = 0",
            "workerIs(6, 0) = 9999", "workerIs(6, 1) = 0", "workerIs(6, 2) = 1", "workerIs(6, 3) = 9999", "proof() = 69993");
        due("all pairs barred: pairs", ALL_BARRED, "costOf(6, 6) = NOT_FOUND", "bar(6, 6) = NOT_POSSIBLE", "pairOf(6, 6, 2) = NOT_FOUND",
            "pairOf(6, -1, 0) = 1", "pairOf(6, -1, 1) = 1", "pairOf(6, -1, 2) = 0", "room(6) = NOT_FOUND", "dearest(0) = NOT_FOUND");
        due("all pairs barred: counts", ALL_BARRED, "count(0) = 7", "count(1) = 7", "count(2) = 0", "count(3) = 0", "count(4) = 0",
            "count(5) = 0", "count(6) = 0");
        due("all pairs barred: a factor", ALL_BARRED, "times(6, 2) = LIMIT_REACHED", "times(6, 1) = 9999", "times(6, 0) = 0",
            "total() = 59994", "costOf(6, 6) = NOT_FOUND");
    }

    /** Seven workers and tasks; it is all the same who has what, also who is idle. */
    private static void allAlike(String cost, String idle, String total) {
        String[] setup = {"square 7 " + cost + " " + idle};
        due("all costs " + cost + ": plans", setup, "total() = " + total, "totalFor(127) = " + total, "taskOf(0) = 0", "taskOf(6) = 6",
            "workerOf(0) = 0", "workerOf(6) = 6");
        due("all costs " + cost + ": prices", setup, "price(0, 0) = 0", "price(6, 0) = 0", "price(0, 1) = 0", "price(6, 1) = 0",
            "workerIs(6, 0) = " + cost, "workerIs(6, 1) = 127", "workerIs(6, 2) = 1", "workerIs(6, 3) = " + cost, "proof() = " + total);
        due("all costs " + cost + ": pairs", setup, "pairOf(0, 6, 0) = 1", "pairOf(0, 6, 1) = 0", "pairOf(0, 6, 2) = 0",
            "pairOf(0, -1, 0) = 1", "pairOf(0, -1, 1) = 0", "pairOf(0, -1, 2) = 0", "room(0) = 0", "room(6) = 0", "dearest(0) = 0",
            "dearest(1) = 0", "dearest(2) = 0", "bar(6, 6) = 0");
        due("all costs " + cost + ": counts", setup, "count(2) = 49", "count(3) = 7", "count(4) = 49", "count(5) = 0", "count(6) = 0");
    }

    private PlanEdgesTest() {
    }
}
