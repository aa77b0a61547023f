/**
 * Workers and tasks, what their pairs cost, the plans with the least total, and what prices prove of them.
 *
 * Sets of workers and of tasks are bits: bit k is for number k.
 */
public final class PricedPairs {
    public static final int INVALID_ARGUMENT = -1;
    public static final int NOT_POSSIBLE = -2;
    public static final int LIMIT_REACHED = -3;
    public static final int NOT_FOUND = -4;

    private static final int MOST_WORKERS = 7;
    private static final int MOST_TASKS = 7;
    private static final int MOST_COST = 9999;
    private static final int MOST_FACTOR = 2000000000;
    private static final int MOST_STATES = 4;
    private static final int MOST_SIGNS = 80;
    private static final int MOST_DIGITS = 4;
    private static final int FIRST_SIGN = 32;
    private static final int LAST_SIGN = 126;

    /** Keeps what cost() answers above the errors, as the least total may become less. */
    private static final int COST_ANSWER_SHIFT = 100000;

    /** Stands where the cost of a pair would. */
    private static final int BARRED = -1;
    /** Stands where the number of a task would. */
    private static final int NO_TASK = -1;
    /** Above the total of every plan. */
    private static final int NEVER = 1000000;

    private static final int NO_FAULT = 0;
    private static final int WRONG_SIGN = 1;
    private static final int WRONG_SIZE = 2;

    private final Table table;
    private final History history;
    private final Plans plans;
    private final Prices prices;
    private final Text text;
    private final Reader reader;

    public PricedPairs() {
        table = new Table();
        history = new History();
        plans = new Plans(table);
        prices = new Prices(table, plans);
        text = new Text();
        reader = new Reader(text);
    }

    // ---- workers, tasks, costs

    public int worker(int idle) {
        if (!isCost(idle)) {
            return INVALID_ARGUMENT;
        }
        if (table.workers >= MOST_WORKERS) {
            return LIMIT_REACHED;
        }
        history.keep(table);
        table.addWorker(idle);
        return table.workers - 1;
    }

    public int task() {
        if (table.tasks >= MOST_TASKS) {
            return LIMIT_REACHED;
        }
        history.keep(table);
        table.addTask();
        return table.tasks - 1;
    }

    public int dropWorker(int worker) {
        if (!isWorker(worker)) {
            return INVALID_ARGUMENT;
        }
        history.keep(table);
        table.removeWorker(worker);
        return table.workers;
    }

    public int dropTask(int task) {
        if (!isTask(task)) {
            return INVALID_ARGUMENT;
        }
        history.keep(table);
        table.removeTask(task);
        return table.tasks;
    }

    public int cost(int worker, int task, int cost) {
        if (!isWorker(worker) || !isTask(task) || !isCost(cost)) {
            return INVALID_ARGUMENT;
        }
        return COST_ANSWER_SHIFT + changePair(worker, task, cost);
    }

    public int bar(int worker, int task) {
        if (!isWorker(worker) || !isTask(task)) {
            return INVALID_ARGUMENT;
        }
        if (table.isBarred(worker, task)) {
            return NOT_POSSIBLE;
        }
        return changePair(worker, task, BARRED);
    }

    public int idle(int worker, int cost) {
        if (!isWorker(worker) || !isCost(cost)) {
            return INVALID_ARGUMENT;
        }
        history.keep(table);
        int before = table.idleCosts[worker];
        table.idleCosts[worker] = cost;
        return before;
    }

    public int times(int worker, int factor) {
        if (!isWorker(worker) || factor < 0 || factor > MOST_FACTOR) {
            return INVALID_ARGUMENT;
        }
        long greatest = (long) table.greatestCost(worker) * factor;
        if (greatest > MOST_COST) {
            return LIMIT_REACHED;
        }
        history.keep(table);
        table.multiplyCosts(worker, factor);
        return (int) greatest;
    }

    public int costOf(int worker, int task) {
        if (!isWorker(worker) || !isTaskOrNone(task)) {
            return INVALID_ARGUMENT;
        }
        if (table.isBarred(worker, task)) {
            return NOT_FOUND;
        }
        return table.costWith(worker, task);
    }

    // ---- plans

    public int total() {
        return plans.leastTotal();
    }

    public int taskOf(int worker) {
        if (!isWorker(worker)) {
            return INVALID_ARGUMENT;
        }
        plans.chooseFirst();
        int task = plans.chosen[worker];
        return task == NO_TASK ? NOT_FOUND : task;
    }

    public int workerOf(int task) {
        if (!isTask(task)) {
            return INVALID_ARGUMENT;
        }
        plans.chooseFirst();
        for (int worker = 0; worker < table.workers; worker++) {
            if (plans.chosen[worker] == task) {
                return worker;
            }
        }
        return NOT_FOUND;
    }

    public int totalFor(int workers) {
        if (workers >>> table.workers != 0) {
            return INVALID_ARGUMENT;
        }
        return plans.leastTotalOf(workers);
    }

    // ---- prices

    public int price(int task, int what) {
        if (!isTask(task) || what < 0 || what > 1) {
            return INVALID_ARGUMENT;
        }
        if (what == 1) {
            return prices.greatestOf(task);
        }
        prices.findLeast();
        return prices.least[task];
    }

    public int workerIs(int worker, int what) {
        if (!isWorker(worker) || what < 0 || what > 3) {
            return INVALID_ARGUMENT;
        }
        if (what == 3) {
            return plans.leastTotal() - plans.leastTotalOf(table.allWorkersBut(worker));
        }
        prices.findLeast();
        switch (what) {
            case 0:
                return prices.worthOf(worker);
            case 1:
                return prices.tightTasksOf(worker);
            default:
                return prices.worthOf(worker) == table.idleCosts[worker] ? 1 : 0;
        }
    }

    public int proof() {
        prices.findLeast();
        return prices.sumOfWorths() - prices.sumOfLeast();
    }

    // ---- pairs

    public int pairOf(int worker, int task, int what) {
        if (!isWorker(worker) || !isTaskOrNone(task) || what < 0 || what > 2) {
            return INVALID_ARGUMENT;
        }
        if (table.isBarred(worker, task)) {
            return NOT_FOUND;
        }
        int least = plans.leastTotal();
        plans.setAside(worker);
        switch (what) {
            case 0:
                return plans.totalWith(worker, task) == least ? 1 : 0;
            case 1:
                return plans.totalWithout(worker, task) > least ? 1 : 0;
            default:
                return plans.totalWith(worker, task) - least;
        }
    }

    public int room(int worker) {
        if (!isWorker(worker)) {
            return INVALID_ARGUMENT;
        }
        plans.chooseFirst();
        if (plans.chosen[worker] == NO_TASK) {
            return NOT_FOUND;
        }
        return plans.roomOf(worker);
    }

    public int dearest(int what) {
        if (what < 0 || what > 2) {
            return INVALID_ARGUMENT;
        }
        plans.chooseFirst();
        int dearest = plans.dearestWorker();
        if (!isWorker(dearest)) {
            return NOT_FOUND;
        }
        switch (what) {
            case 0:
                return dearest;
            case 1:
                return plans.chosen[dearest];
            default:
                return plans.roomOf(dearest);
        }
    }

    public int count(int what) {
        switch (what) {
            case 0:
                return table.workers;
            case 1:
                return table.tasks;
            case 2:
                return table.openPairs();
            case 3:
                plans.chooseFirst();
                return plans.chosenPairs();
            case 4:
                prices.findLeast();
                return prices.tightPairs();
            case 5:
                prices.findLeast();
                return prices.sumOfLeast();
            case 6:
                return prices.sumOfGreatest();
            case 7:
                return history.size;
            case 8:
                return text.length;
            default:
                return INVALID_ARGUMENT;
        }
    }

    public int undo() {
        if (history.size == 0) {
            return NOT_POSSIBLE;
        }
        history.giveBack(table);
        return history.size;
    }

    // ---- texts

    public int type(int character) {
        if (character < FIRST_SIGN || character > LAST_SIGN) {
            return INVALID_ARGUMENT;
        }
        if (text.length >= MOST_SIGNS) {
            return LIMIT_REACHED;
        }
        text.append((char) character);
        return text.length;
    }

    public int clearText() {
        int before = text.length;
        text.length = 0;
        return before;
    }

    public int fault(int what) {
        if (what < 0 || what > 1) {
            return INVALID_ARGUMENT;
        }
        reader.readText();
        if (reader.reason == NO_FAULT) {
            return NOT_FOUND;
        }
        return what == 0 ? reader.place : reader.reason;
    }

    public int read() {
        reader.readText();
        if (reader.reason != NO_FAULT) {
            return NOT_POSSIBLE;
        }
        history.keep(table);
        table.copyFrom(reader.found);
        return plans.leastTotal();
    }

    // ---- arguments and changes

    private boolean isWorker(int worker) {
        return worker >= 0 && worker < table.workers;
    }

    private boolean isTask(int task) {
        return task >= 0 && task < table.tasks;
    }

    private boolean isTaskOrNone(int task) {
        return task == NO_TASK || isTask(task);
    }

    private static boolean isCost(int cost) {
        return cost >= 0 && cost <= MOST_COST;
    }

    /** Answers by how much the least total becomes more. */
    private int changePair(int worker, int task, int costOrBarred) {
        int before = plans.leastTotal();
        history.keep(table);
        table.costs[worker][task] = costOrBarred;
        return plans.leastTotal() - before;
    }

    /** The workers, the tasks and their costs: all that a state of the history holds. */
    private static final class Table {
        int workers;
        int tasks;
        final int[] idleCosts;
        final int[][] costs;

        Table() {
            idleCosts = new int[MOST_WORKERS];
            costs = new int[MOST_WORKERS][MOST_TASKS];
        }

        void copyFrom(Table other) {
            workers = other.workers;
            tasks = other.tasks;
            for (int worker = 0; worker < MOST_WORKERS; worker++) {
                idleCosts[worker] = other.idleCosts[worker];
                for (int task = 0; task < MOST_TASKS; task++) {
                    costs[worker][task] = other.costs[worker][task];
                }
            }
        }

        void addWorker(int idleCost) {
            idleCosts[workers] = idleCost;
            for (int task = 0; task < tasks; task++) {
                costs[workers][task] = BARRED;
            }
            workers++;
        }

        void addTask() {
            for (int worker = 0; worker < workers; worker++) {
                costs[worker][tasks] = BARRED;
            }
            tasks++;
        }

        void removeWorker(int dropped) {
            workers--;
            for (int worker = dropped; worker < workers; worker++) {
                idleCosts[worker] = idleCosts[worker + 1];
                for (int task = 0; task < tasks; task++) {
                    costs[worker][task] = costs[worker + 1][task];
                }
            }
        }

        void removeTask(int dropped) {
            tasks--;
            for (int worker = 0; worker < workers; worker++) {
                for (int task = dropped; task < tasks; task++) {
                    costs[worker][task] = costs[worker][task + 1];
                }
            }
        }

        /** Being idle is never barred. */
        boolean isBarred(int worker, int task) {
            return task != NO_TASK && costs[worker][task] == BARRED;
        }

        int costWith(int worker, int task) {
            return task == NO_TASK ? idleCosts[worker] : costs[worker][task];
        }

        int greatestCost(int worker) {
            int greatest = idleCosts[worker];
            for (int task = 0; task < tasks; task++) {
                greatest = Math.max(greatest, costs[worker][task]);
            }
            return greatest;
        }

        void multiplyCosts(int worker, int factor) {
            idleCosts[worker] *= factor;
            for (int task = 0; task < tasks; task++) {
                if (!isBarred(worker, task)) {
                    costs[worker][task] *= factor;
                }
            }
        }

        int openPairs() {
            int open = 0;
            for (int worker = 0; worker < workers; worker++) {
                for (int task = 0; task < tasks; task++) {
                    if (!isBarred(worker, task)) {
                        open++;
                    }
                }
            }
            return open;
        }

        int allWorkers() {
            return (1 << workers) - 1;
        }

        int allWorkersBut(int worker) {
            return allWorkers() & ~(1 << worker);
        }
    }

    /** The latest states, made once and used again, the oldest one first. */
    private static final class History {
        int size;
        private final Table[] states;

        History() {
            states = new Table[MOST_STATES];
            for (int state = 0; state < MOST_STATES; state++) {
                states[state] = new Table();
            }
        }

        void keep(Table table) {
            if (size == MOST_STATES) {
                dropOldest();
            }
            states[size].copyFrom(table);
            size++;
        }

        private void dropOldest() {
            Table oldest = states[0];
            size--;
            for (int state = 0; state < size; state++) {
                states[state] = states[state + 1];
            }
            states[size] = oldest;
        }

        /** Only for a history that is not empty. */
        void giveBack(Table table) {
            size--;
            table.copyFrom(states[size]);
        }
    }

    /** Least totals, and the first plan. */
    private static final class Plans {
        /** The task of each worker in the first plan, as chooseFirst() has found it. */
        final int[] chosen;
        /** The least total, as chooseFirst() has found it. */
        private int chosenTotal;
        private final Table table;
        /** [w][taken]: the least total of the weighed workers from w on, if the tasks of the set taken are gone. */
        private final int[][] least;

        Plans(Table table) {
            this.table = table;
            chosen = new int[MOST_WORKERS];
            least = new int[MOST_WORKERS + 1][1 << MOST_TASKS];
        }

        int leastTotal() {
            return leastTotalOf(table.allWorkers());
        }

        int leastTotalOf(int workers) {
            weigh(workers);
            return least[0][0];
        }

        /** By how much more the least total would be without the task. */
        int lossWithoutTask(int task) {
            weigh(table.allWorkers());
            return least[0][1 << task] - least[0][0];
        }

        private void weigh(int workers) {
            int sets = 1 << table.tasks;
            for (int taken = 0; taken < sets; taken++) {
                least[table.workers][taken] = 0;
            }
            for (int worker = table.workers - 1; worker >= 0; worker--) {
                boolean weighed = (workers >> worker & 1) == 1;
                for (int taken = 0; taken < sets; taken++) {
                    least[worker][taken] = weighed ? leastFrom(worker, taken) : least[worker + 1][taken];
                }
            }
        }

        private int leastFrom(int worker, int taken) {
            int best = table.idleCosts[worker] + least[worker + 1][taken];
            for (int task = 0; task < table.tasks; task++) {
                best = Math.min(best, totalFrom(worker, task, taken));
            }
            return best;
        }

        /** The least total from the worker on, if the worker has the task. */
        private int totalFrom(int worker, int task, int taken) {
            int cost = table.costs[worker][task];
            if (cost == BARRED || (taken >> task & 1) == 1) {
                return NEVER;
            }
            return cost + least[worker + 1][taken | 1 << task];
        }

        void chooseFirst() {
            chosenTotal = leastTotal();
            int taken = 0;
            for (int worker = 0; worker < table.workers; worker++) {
                chosen[worker] = lowestBestTask(worker, taken);
                if (chosen[worker] != NO_TASK) {
                    taken |= 1 << chosen[worker];
                }
            }
        }

        private int lowestBestTask(int worker, int taken) {
            for (int task = 0; task < table.tasks; task++) {
                if (totalFrom(worker, task, taken) == least[worker][taken]) {
                    return task;
                }
            }
            return NO_TASK;
        }

        int chosenPairs() {
            int pairs = 0;
            for (int worker = 0; worker < table.workers; worker++) {
                if (chosen[worker] != NO_TASK) {
                    pairs++;
                }
            }
            return pairs;
        }

        /** Weighs all workers but this one, as totalWith() and totalWithout() want it. */
        void setAside(int worker) {
            weigh(table.allWorkersBut(worker));
        }

        /** The least total if the worker, who is set aside, had to have the task, which is not barred. */
        int totalWith(int worker, int task) {
            int taken = task == NO_TASK ? 0 : 1 << task;
            return table.costWith(worker, task) + least[0][taken];
        }

        /** The least total if the worker, who is set aside, could not have the task. */
        int totalWithout(int worker, int task) {
            int best = NEVER;
            for (int other = NO_TASK; other < table.tasks; other++) {
                if (other != task && !table.isBarred(worker, other)) {
                    best = Math.min(best, totalWith(worker, other));
                }
            }
            return best;
        }

        /** Only behind chooseFirst(). */
        int roomOf(int worker) {
            setAside(worker);
            return totalWithout(worker, chosen[worker]) - chosenTotal;
        }

        /** Only behind chooseFirst(); no worker's number if the first plan has no pair. */
        int dearestWorker() {
            int dearest = -1;
            int most = -1;
            for (int worker = 0; worker < table.workers; worker++) {
                int room = chosen[worker] == NO_TASK ? -1 : roomOf(worker);
                if (room > most) {
                    dearest = worker;
                    most = room;
                }
            }
            return dearest;
        }
    }

    /** Prices of tasks, and what the least ones tell of workers. */
    private static final class Prices {
        /** The least price of each task, as findLeast() has found it; what asks for worths wants it found. */
        final int[] least;
        private final Table table;
        private final Plans plans;

        Prices(Table table, Plans plans) {
            this.table = table;
            this.plans = plans;
            least = new int[MOST_TASKS];
        }

        /** One more task like this one helps by one worker who has it, while the others plan without the worker. */
        void findLeast() {
            for (int task = 0; task < table.tasks; task++) {
                least[task] = 0;
            }
            int total = plans.leastTotal();
            for (int worker = 0; worker < table.workers; worker++) {
                int share = total - plans.leastTotalOf(table.allWorkersBut(worker));
                for (int task = 0; task < table.tasks; task++) {
                    if (!table.isBarred(worker, task)) {
                        least[task] = Math.max(least[task], share - table.costs[worker][task]);
                    }
                }
            }
        }

        int greatestOf(int task) {
            return plans.lossWithoutTask(task);
        }

        int sumOfLeast() {
            int sum = 0;
            for (int task = 0; task < table.tasks; task++) {
                sum += least[task];
            }
            return sum;
        }

        int sumOfGreatest() {
            int sum = 0;
            for (int task = 0; task < table.tasks; task++) {
                sum += greatestOf(task);
            }
            return sum;
        }

        int worthOf(int worker) {
            int worth = table.idleCosts[worker];
            for (int task = 0; task < table.tasks; task++) {
                if (!table.isBarred(worker, task)) {
                    worth = Math.min(worth, table.costs[worker][task] + least[task]);
                }
            }
            return worth;
        }

        int sumOfWorths() {
            int sum = 0;
            for (int worker = 0; worker < table.workers; worker++) {
                sum += worthOf(worker);
            }
            return sum;
        }

        int tightTasksOf(int worker) {
            int worth = worthOf(worker);
            int tight = 0;
            for (int task = 0; task < table.tasks; task++) {
                if (!table.isBarred(worker, task) && table.costs[worker][task] + least[task] == worth) {
                    tight |= 1 << task;
                }
            }
            return tight;
        }

        int tightPairs() {
            int pairs = 0;
            for (int worker = 0; worker < table.workers; worker++) {
                pairs += Integer.bitCount(tightTasksOf(worker));
            }
            return pairs;
        }
    }

    /** The text that is typed. */
    private static final class Text {
        int length;
        private final char[] signs;

        Text() {
            signs = new char[MOST_SIGNS];
        }

        /** Only for a text that is not full. */
        void append(char sign) {
            signs[length] = sign;
            length++;
        }

        boolean isAt(int place, char sign) {
            return place < length && signs[place] == sign;
        }

        /** The digit at a place, or -1 if there is none. */
        int digitAt(int place) {
            if (place >= length || signs[place] < '0' || signs[place] > '9') {
                return -1;
            }
            return signs[place] - '0';
        }
    }

    /** Reads the text as a table, from the left to its end or to its fault. */
    private static final class Reader {
        /** Where the reader stands: where the fault is, if there is one. */
        int place;
        int reason;
        /** The table of a text without a fault. */
        final Table found;
        private final Text text;

        Reader(Text text) {
            this.text = text;
            found = new Table();
        }

        void readText() {
            place = 0;
            reason = NO_FAULT;
            boolean ended = false;
            for (int row = 0; row < MOST_WORKERS && !ended; row++) {
                readRow(row);
                found.workers = row + 1;
                ended = reason != NO_FAULT || place == text.length;
                if (!ended) {
                    step(';', row + 1 < MOST_WORKERS);
                    ended = reason != NO_FAULT;
                }
            }
        }

        private void readRow(int row) {
            int entries = readEntries(row);
            if (reason == NO_FAULT) {
                step('/', row == 0 || entries == found.tasks);
            }
            if (reason == NO_FAULT) {
                found.idleCosts[row] = readNumber();
            }
            if (row == 0) {
                found.tasks = entries;
            }
        }

        /** Answers how many they are, none of them behind a fault. */
        private int readEntries(int row) {
            int most = row == 0 ? MOST_TASKS : found.tasks;
            int entries = 0;
            boolean more = true;
            while (more && entries < most) {
                found.costs[row][entries] = readEntry();
                entries++;
                more = reason == NO_FAULT && text.isAt(place, ',');
                if (more) {
                    step(',', entries < most);
                }
            }
            return entries;
        }

        private int readEntry() {
            if (text.isAt(place, 'x')) {
                place++;
                return BARRED;
            }
            return readNumber();
        }

        /** A digit that cannot be of the number is left, where it is then not the sign that is due. */
        private int readNumber() {
            int number = text.digitAt(place);
            if (number < 0) {
                reason = WRONG_SIGN;
                return 0;
            }
            place++;
            for (int digits = 1; digits < MOST_DIGITS && number > 0 && text.digitAt(place) >= 0; digits++) {
                number = number * 10 + text.digitAt(place);
                place++;
            }
            return number;
        }

        /** Goes behind the sign that is due here, or stays at the fault. */
        private void step(char due, boolean fits) {
            if (!text.isAt(place, due)) {
                reason = WRONG_SIGN;
            } else if (!fits) {
                reason = WRONG_SIZE;
            } else {
                place++;
            }
        }
    }
}
