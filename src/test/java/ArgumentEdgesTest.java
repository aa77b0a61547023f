/**
 * For each argument of each method: the least and the greatest value that it may have are taken, and the next ones
 * beyond them, the least and the greatest int, and others far beyond are INVALID_ARGUMENT; each call on an object of
 * its own. Answers that the values have are in the other tests.
 */
final class ArgumentEdgesTest {
    private static final int LEAST_INT = Integer.MIN_VALUE;
    private static final int GREATEST_INT = Integer.MAX_VALUE;
    private static final int[] PROBES = {
        LEAST_INT, LEAST_INT + 1, -2000000000, -65536, -65535, -10000, -9999, -256, -128, -64, -33, -32, -31, -9, -8, -7,
        -3, -2, -1, 0, 1, 2, 3, 4, 5, 6, 7, 8, 9, 10, 31, 32, 33, 34, 49, 63, 64, 65, 95, 96, 120, 125, 126, 127, 128, 129,
        255, 256, 257, 305, 9998, 9999, 10000, 10001, 65535, 65536, 65537, 65585, 1999999999, 2000000000, 2000000001,
        GREATEST_INT - 1, GREATEST_INT
    };

    /** Workers 0 to 2, tasks 0 and 1; no two of these numbers are the same as of the tasks. */
    private static final String[] THREE_AND_TWO = {"table 1,2/10;3,x/20;5,6/30"};
    private static final String[] TWO_AND_THREE = {"table 1,2,x/10;x,4,5/20"};
    private static final String[] NEITHER = {};
    private static final String[] NO_TASKS = {"worker(4)", "worker(5)"};
    private static final String[] NO_WORKERS = {"task()", "task()"};
    private static final String[] SEVEN_OF_EACH = {"square 7 20 30"};

    private static final Checks CHECKS = new Checks();
    private static final Runs RUNS = new Runs(CHECKS);

    public static void main(String[] args) {
        workers();
        tasks();
        tasksOrIdle();
        costs();
        factors();
        whats();
        sets();
        characters();
        CHECKS.finish("ArgumentEdgesTest");
    }

    /** Where "#" stands in the call, all from the least to the greatest value may stand, and nothing else. */
    private static void range(String sentence, String[] setup, String call, int least, int greatest) {
        for (int value : PROBES) {
            String told = call.replace("#", "" + value);
            int answer = RUNS.due(sentence, setup).call(told);
            boolean due = value >= least && value <= greatest;
            CHECKS.due(sentence + ": " + told + " answered " + answer + "; that it takes the argument", answer != -1 == due);
        }
    }

    /** Nothing may stand there. */
    private static void nothing(String sentence, String[] setup, String call) {
        range(sentence, setup, call, 1, 0);
    }

    private static void workers() {
        String[] calls = {
            "dropWorker(#)", "idle(#, 5)", "times(#, 1)", "costOf(#, -1)", "taskOf(#)", "workerIs(#, 0)", "workerIs(#, 1)",
            "workerIs(#, 2)", "workerIs(#, 3)", "pairOf(#, -1, 0)", "pairOf(#, -1, 1)", "pairOf(#, -1, 2)", "room(#)"
        };
        for (String call : calls) {
            workersOf(call);
            range("no worker with such a number, without tasks", NO_TASKS, call, 0, 1);
        }
        String[] callsWithTask = {
            "cost(#, 0, 5)", "bar(#, 1)", "costOf(#, 1)", "pairOf(#, 0, 0)", "pairOf(#, 0, 1)", "pairOf(#, 1, 2)"
        };
        for (String call : callsWithTask) {
            workersOf(call);
            nothing("a worker, but no task", NO_TASKS, call);
        }
    }

    private static void workersOf(String call) {
        range("no worker with such a number, of three", THREE_AND_TWO, call, 0, 2);
        range("no worker with such a number, of two", TWO_AND_THREE, call, 0, 1);
        range("no worker with such a number, of 7", SEVEN_OF_EACH, call, 0, 6);
        nothing("no worker with such a number, of none", NEITHER, call);
        nothing("no worker with such a number, of none, but tasks", NO_WORKERS, call);
    }

    private static void tasks() {
        for (String call : new String[] {"dropTask(#)", "workerOf(#)", "price(#, 0)", "price(#, 1)"}) {
            tasksOf(call);
            range("no task with such a number, without workers", NO_WORKERS, call, 0, 1);
        }
        for (String call : new String[] {"cost(0, #, 5)", "bar(1, #)"}) {
            tasksOf(call);
            nothing("a task, but no worker", NO_WORKERS, call);
        }
    }

    private static void tasksOf(String call) {
        range("no task with such a number, of two", THREE_AND_TWO, call, 0, 1);
        range("no task with such a number, of three", TWO_AND_THREE, call, 0, 2);
        range("no task with such a number, of 7", SEVEN_OF_EACH, call, 0, 6);
        nothing("no task with such a number, of none", NEITHER, call);
        nothing("no task with such a number, of none, but workers", NO_TASKS, call);
    }

    private static void tasksOrIdle() {
        String[] calls = {"costOf(0, #)", "costOf(1, #)", "pairOf(0, #, 0)", "pairOf(1, #, 1)", "pairOf(0, #, 2)"};
        for (String call : calls) {
            range("number of the task, -1", THREE_AND_TWO, call, -1, 1);
            range("number of the task, -1, of three", TWO_AND_THREE, call, -1, 2);
            range("number of the task, -1, of 7", SEVEN_OF_EACH, call, -1, 6);
            range("number of the task, -1, of none", NO_TASKS, call, -1, -1);
            nothing("number of the task, -1, without workers", NO_WORKERS, call);
            nothing("number of the task, -1, neither", NEITHER, call);
        }
    }

    private static void costs() {
        range("2: idle: 0 to 9999", NEITHER, "worker(#)", 0, 9999);
        range("2: idle: 0 to 9999, of more", THREE_AND_TWO, "worker(#)", 0, 9999);
        range("2: idle: 0 to 9999, also an eighth one", SEVEN_OF_EACH, "worker(#)", 0, 9999);
        range("6: cost: 0 to 9999", THREE_AND_TWO, "cost(2, 1, #)", 0, 9999);
        range("6: cost: 0 to 9999, of a barred pair", THREE_AND_TWO, "cost(1, 1, #)", 0, 9999);
        range("8: cost: 0 to 9999", THREE_AND_TWO, "idle(2, #)", 0, 9999);
        range("8: cost: 0 to 9999, without tasks", NO_TASKS, "idle(0, #)", 0, 9999);
        nothing("6: a cost, but no pair", NEITHER, "cost(0, 0, #)");
        nothing("8: a cost, but no worker", NO_WORKERS, "idle(0, #)");
    }

    private static void factors() {
        String[] zeros = {"table 0,x/0;1,2/3"};
        range("9: factor: 0 to 2000000000", THREE_AND_TWO, "times(2, #)", 0, 2000000000);
        range("9: factor: 0 to 2000000000, of costs of 0", zeros, "times(0, #)", 0, 2000000000);
        range("9: factor: 0 to 2000000000, without tasks", NO_TASKS, "times(1, #)", 0, 2000000000);
        nothing("9: a factor, but no worker", NO_WORKERS, "times(0, #)");
    }

    private static void whats() {
        String[][] setups = {THREE_AND_TWO, TWO_AND_THREE, SEVEN_OF_EACH};
        for (String[] setup : setups) {
            range("15: what: 0 or 1", setup, "price(1, #)", 0, 1);
            range("16: what: 0 to 3", setup, "workerIs(1, #)", 0, 3);
            range("18: what: 0 to 2", setup, "pairOf(0, 1, #)", 0, 2);
            range("18: what: 0 to 2, of being idle", setup, "pairOf(0, -1, #)", 0, 2);
        }
        range("18: what: 0 to 2, of a barred pair", THREE_AND_TWO, "pairOf(1, 1, #)", 0, 2);
        range("15: what: 0 or 1, without workers", NO_WORKERS, "price(1, #)", 0, 1);
        range("16: what: 0 to 3, without tasks", NO_TASKS, "workerIs(1, #)", 0, 3);
        String[][] all = {THREE_AND_TWO, SEVEN_OF_EACH, NEITHER, NO_WORKERS, NO_TASKS};
        for (String[] setup : all) {
            range("20: what: 0 to 2", setup, "dearest(#)", 0, 2);
            range("21: what: 0 to 8", setup, "count(#)", 0, 8);
            range("25: what: 0 or 1", setup, "fault(#)", 0, 1);
        }
        range("25: what: 0 or 1, without a fault", new String[] {"type 1/2"}, "fault(#)", 0, 1);
    }

    private static void sets() {
        range("14: a set of workers, of none", NEITHER, "totalFor(#)", 0, 0);
        range("14: a set of workers, of none, but tasks", NO_WORKERS, "totalFor(#)", 0, 0);
        range("14: a set of workers, of two", NO_TASKS, "totalFor(#)", 0, 3);
        range("14: a set of workers, of three", THREE_AND_TWO, "totalFor(#)", 0, 7);
        range("14: a set of workers, of 7", SEVEN_OF_EACH, "totalFor(#)", 0, 127);
    }

    private static void characters() {
        range("23: character: 32 to 126", NEITHER, "type(#)", 32, 126);
        range("23: character: 32 to 126, behind others", new String[] {"type 1,2/3"}, "type(#)", 32, 126);
        range("23: character: 32 to 126, also an 81st one", new String[] {"80x type(49)"}, "type(#)", 32, 126);
    }

    private ArgumentEdgesTest() {
    }
}
