import java.util.ArrayDeque;
import java.util.Deque;
import java.util.function.Predicate;
import java.util.regex.Matcher;
import java.util.regex.Pattern;

/**
 * The document to the letter: looks at every plan there is, adds the task that "another task" is,
 * bars the pair that is "barred", and finds faults of texts by a pattern.
 * It shares nothing with the program, so that the two can be held against each other.
 */
final class Reference {
    private static final int INVALID = -1;
    private static final int NOT_POSSIBLE = -2;
    private static final int LIMIT = -3;
    private static final int NOT_FOUND = -4;
    private static final int NONE = -1;
    private static final int NO_PLAN = Integer.MAX_VALUE;

    private static final String NUMBER = "(0|[1-9][0-9]{0,3})";
    private static final String ENTRY = "(x|" + NUMBER + ")";
    private static final String ROW = ENTRY + "(," + ENTRY + ")*/" + NUMBER;
    private static final Pattern ROWS = Pattern.compile(ROW + "(;" + ROW + ")*");

    /** A table; costs of -1 are barred pairs. It is never changed once it is the current one. */
    private static final class State {
        final int[] idle;
        final int[][] costs;
        final int tasks;

        State(int workers, int tasks) {
            idle = new int[workers];
            costs = new int[workers][tasks];
            for (int[] row : costs) {
                java.util.Arrays.fill(row, -1);
            }
            this.tasks = tasks;
        }

        int workers() {
            return idle.length;
        }

        /** The number that each worker and task of the new one has here, or -1 if it is a new one. */
        State renumbered(int[] workers, int[] tasks) {
            State made = new State(workers.length, tasks.length);
            for (int w = 0; w < workers.length; w++) {
                if (workers[w] < 0) {
                    continue;
                }
                made.idle[w] = idle[workers[w]];
                for (int t = 0; t < tasks.length; t++) {
                    made.costs[w][t] = tasks[t] < 0 ? -1 : costs[workers[w]][tasks[t]];
                }
            }
            return made;
        }

        State copy() {
            return renumbered(upTo(workers()), upTo(tasks));
        }

        State withCost(int worker, int task, int cost) {
            State made = copy();
            made.costs[worker][task] = cost;
            return made;
        }

        State withoutWorker(int worker) {
            return renumbered(without(upTo(workers()), worker), upTo(tasks));
        }

        State withoutTask(int task) {
            return renumbered(upTo(workers()), without(upTo(tasks), task));
        }

        State withTaskTwice(int task) {
            return renumbered(upTo(workers()), with(upTo(tasks), task));
        }

        /** The least total of the plans that are as they must be; the first such plan goes to the array. */
        int least(Predicate<int[]> must, int[] first) {
            int[] best = {NO_PLAN};
            search(0, new int[workers()], 0, 0, must, best, first);
            return best[0];
        }

        int least() {
            return least(plan -> true, new int[workers()]);
        }

        private void search(int w, int[] plan, int taken, int sum, Predicate<int[]> must, int[] best, int[] first) {
            if (w == workers()) {
                if (sum < best[0] && must.test(plan)) {
                    best[0] = sum;
                    System.arraycopy(plan, 0, first, 0, plan.length);
                }
                return;
            }
            for (int t = 0; t < tasks; t++) {
                if (costs[w][t] >= 0 && (taken >> t & 1) == 0) {
                    plan[w] = t;
                    search(w + 1, plan, taken | 1 << t, sum + costs[w][t], must, best, first);
                }
            }
            plan[w] = NONE;
            search(w + 1, plan, taken, sum + idle[w], must, best, first);
        }
    }

    private State now = new State(0, 0);
    private final Deque<State> history = new ArrayDeque<>();
    private String text = "";

    private static int[] upTo(int count) {
        int[] numbers = new int[count];
        for (int i = 0; i < count; i++) {
            numbers[i] = i;
        }
        return numbers;
    }

    private static int[] without(int[] numbers, int at) {
        int[] left = new int[numbers.length - 1];
        for (int i = 0; i < left.length; i++) {
            left[i] = numbers[i < at ? i : i + 1];
        }
        return left;
    }

    private static int[] with(int[] numbers, int last) {
        int[] more = java.util.Arrays.copyOf(numbers, numbers.length + 1);
        more[numbers.length] = last;
        return more;
    }

    private void change(State to) {
        history.addLast(now);
        if (history.size() == 5) {
            history.removeFirst();
        }
        now = to;
    }

    private boolean noWorker(int worker) {
        return worker < 0 || worker >= now.workers();
    }

    private boolean noTask(int task) {
        return task < 0 || task >= now.tasks;
    }

    private static boolean noCost(int cost) {
        return cost < 0 || cost > 9999;
    }

    int worker(int idle) {
        if (noCost(idle)) {
            return INVALID;
        }
        if (now.workers() == 7) {
            return LIMIT;
        }
        State made = now.renumbered(with(upTo(now.workers()), -1), upTo(now.tasks));
        made.idle[now.workers()] = idle;
        change(made);
        return now.workers() - 1;
    }

    int task() {
        if (now.tasks == 7) {
            return LIMIT;
        }
        change(now.renumbered(upTo(now.workers()), with(upTo(now.tasks), -1)));
        return now.tasks - 1;
    }

    int dropWorker(int worker) {
        if (noWorker(worker)) {
            return INVALID;
        }
        change(now.withoutWorker(worker));
        return now.workers();
    }

    int dropTask(int task) {
        if (noTask(task)) {
            return INVALID;
        }
        change(now.withoutTask(task));
        return now.tasks;
    }

    int cost(int worker, int task, int cost) {
        if (noWorker(worker) || noTask(task) || noCost(cost)) {
            return INVALID;
        }
        int before = now.least();
        change(now.withCost(worker, task, cost));
        return now.least() - before + 100000;
    }

    int bar(int worker, int task) {
        if (noWorker(worker) || noTask(task)) {
            return INVALID;
        }
        if (now.costs[worker][task] < 0) {
            return NOT_POSSIBLE;
        }
        int before = now.least();
        change(now.withCost(worker, task, -1));
        return now.least() - before;
    }

    int idle(int worker, int cost) {
        if (noWorker(worker) || noCost(cost)) {
            return INVALID;
        }
        int was = now.idle[worker];
        State made = now.copy();
        made.idle[worker] = cost;
        change(made);
        return was;
    }

    int times(int worker, int factor) {
        if (noWorker(worker) || factor < 0 || factor > 2000000000) {
            return INVALID;
        }
        State made = now.copy();
        long product = (long) now.idle[worker] * factor;
        long greatest = product;
        made.idle[worker] = (int) product;
        for (int t = 0; t < now.tasks; t++) {
            if (now.costs[worker][t] >= 0) {
                product = (long) now.costs[worker][t] * factor;
                greatest = Math.max(greatest, product);
                made.costs[worker][t] = (int) product;
            }
        }
        if (greatest > 9999) {
            return LIMIT;
        }
        change(made);
        return (int) greatest;
    }

    int costOf(int worker, int task) {
        if (noWorker(worker) || task != NONE && noTask(task)) {
            return INVALID;
        }
        if (task == NONE) {
            return now.idle[worker];
        }
        return now.costs[worker][task] < 0 ? NOT_FOUND : now.costs[worker][task];
    }

    int total() {
        return now.least();
    }

    private int[] first() {
        int[] plan = new int[now.workers()];
        now.least(any -> true, plan);
        return plan;
    }

    int taskOf(int worker) {
        if (noWorker(worker)) {
            return INVALID;
        }
        return first()[worker] == NONE ? NOT_FOUND : first()[worker];
    }

    int workerOf(int task) {
        if (noTask(task)) {
            return INVALID;
        }
        int[] plan = first();
        for (int w = 0; w < plan.length; w++) {
            if (plan[w] == task) {
                return w;
            }
        }
        return NOT_FOUND;
    }

    int totalFor(int workers) {
        if (workers < 0 || workers >= 1 << now.workers()) {
            return INVALID;
        }
        State alone = now;
        for (int w = now.workers() - 1; w >= 0; w--) {
            if ((workers >> w & 1) == 0) {
                alone = alone.withoutWorker(w);
            }
        }
        return alone.least();
    }

    private int leastPrice(int task) {
        return now.least() - now.withTaskTwice(task).least();
    }

    private int greatestPrice(int task) {
        return now.withoutTask(task).least() - now.least();
    }

    int price(int task, int what) {
        if (noTask(task) || what < 0 || what > 1) {
            return INVALID;
        }
        return what == 0 ? leastPrice(task) : greatestPrice(task);
    }

    private int[] leastPrices() {
        int[] prices = new int[now.tasks];
        for (int t = 0; t < now.tasks; t++) {
            prices[t] = leastPrice(t);
        }
        return prices;
    }

    private int worth(int worker, int[] prices) {
        int worth = now.idle[worker];
        for (int t = 0; t < now.tasks; t++) {
            if (now.costs[worker][t] >= 0) {
                worth = Math.min(worth, now.costs[worker][t] + prices[t]);
            }
        }
        return worth;
    }

    private int tight(int worker, int[] prices) {
        int tight = 0;
        for (int t = 0; t < now.tasks; t++) {
            if (now.costs[worker][t] >= 0 && now.costs[worker][t] + prices[t] == worth(worker, prices)) {
                tight += 1 << t;
            }
        }
        return tight;
    }

    int workerIs(int worker, int what) {
        if (noWorker(worker) || what < 0 || what > 3) {
            return INVALID;
        }
        if (what == 0) {
            return worth(worker, leastPrices());
        }
        if (what == 1) {
            return tight(worker, leastPrices());
        }
        if (what == 2) {
            return worth(worker, leastPrices()) == now.idle[worker] ? 1 : 0;
        }
        return now.least() - now.withoutWorker(worker).least();
    }

    int proof() {
        int[] prices = leastPrices();
        int sum = 0;
        for (int w = 0; w < now.workers(); w++) {
            sum += worth(w, prices);
        }
        for (int price : prices) {
            sum -= price;
        }
        return sum;
    }

    int pairOf(int worker, int task, int what) {
        if (noWorker(worker) || task != NONE && noTask(task) || what < 0 || what > 2) {
            return INVALID;
        }
        if (task != NONE && now.costs[worker][task] < 0) {
            return NOT_FOUND;
        }
        int[] any = new int[now.workers()];
        int with = now.least(plan -> plan[worker] == task, any);
        int without = now.least(plan -> plan[worker] != task, any);
        int least = now.least();
        if (what == 0) {
            return with == least ? 1 : 0;
        }
        if (what == 1) {
            return without == least ? 0 : 1;
        }
        return with - least;
    }

    private int roomOfPair(int worker, int task) {
        return now.withCost(worker, task, -1).least() - now.least();
    }

    int room(int worker) {
        if (noWorker(worker)) {
            return INVALID;
        }
        int task = first()[worker];
        return task == NONE ? NOT_FOUND : roomOfPair(worker, task);
    }

    int dearest(int what) {
        if (what < 0 || what > 2) {
            return INVALID;
        }
        int[] plan = first();
        int[] found = null;
        for (int w = plan.length - 1; w >= 0; w--) {
            if (plan[w] != NONE) {
                int room = roomOfPair(w, plan[w]);
                if (found == null || room >= found[2]) {
                    found = new int[] {w, plan[w], room};
                }
            }
        }
        return found == null ? NOT_FOUND : found[what];
    }

    int count(int what) {
        int[] prices = what == 4 || what == 5 ? leastPrices() : new int[0];
        int sum = 0;
        switch (what) {
            case 0:
                return now.workers();
            case 1:
                return now.tasks;
            case 2:
                for (int[] row : now.costs) {
                    for (int cost : row) {
                        sum += cost >= 0 ? 1 : 0;
                    }
                }
                return sum;
            case 3:
                for (int task : first()) {
                    sum += task != NONE ? 1 : 0;
                }
                return sum;
            case 4:
                for (int w = 0; w < now.workers(); w++) {
                    sum += Integer.bitCount(tight(w, prices));
                }
                return sum;
            case 5:
                for (int price : prices) {
                    sum += price;
                }
                return sum;
            case 6:
                for (int t = 0; t < now.tasks; t++) {
                    sum += greatestPrice(t);
                }
                return sum;
            case 7:
                return history.size();
            case 8:
                return text.length();
            default:
                return INVALID;
        }
    }

    int undo() {
        if (history.isEmpty()) {
            return NOT_POSSIBLE;
        }
        now = history.removeLast();
        return history.size();
    }

    int type(int character) {
        if (character < 32 || character > 126) {
            return INVALID;
        }
        if (text.length() == 80) {
            return LIMIT;
        }
        text += (char) character;
        return text.length();
    }

    int clearText() {
        int had = text.length();
        text = "";
        return had;
    }

    /** Where the first character is that no text of any rows could have there; -1 if the text is such rows. */
    private static int wrongCharacter(String text) {
        for (int end = 1; end <= text.length(); end++) {
            Matcher matcher = ROWS.matcher(text.substring(0, end));
            if (!matcher.matches() && !matcher.hitEnd()) {
                return end - 1;
            }
        }
        return ROWS.matcher(text).matches() ? -1 : text.length();
    }

    /** Where the first character is by which a row has too many or too few entries, or there are too many rows. */
    private static int wrongSize(String text) {
        String[] rows = text.split(";", -1);
        int inFirst = rows[0].split("/", -1)[0].split(",", -1).length;
        int start = 0;
        for (int r = 0; r < rows.length; r++) {
            if (r == 7) {
                return start - 1;
            }
            int most = r == 0 ? 7 : inFirst;
            int entries = 1;
            for (int i = 0; i < rows[r].length(); i++) {
                char c = rows[r].charAt(i);
                if (c == ',') {
                    entries++;
                    if (entries > most) {
                        return start + i;
                    }
                }
                if (c == '/' && r > 0 && entries < inFirst) {
                    return start + i;
                }
            }
            start += rows[r].length() + 1;
        }
        return -1;
    }

    /** Place and reason, or null. */
    private int[] faultOfText() {
        int wrong = wrongCharacter(text);
        int sound = wrong < 0 ? text.length() : wrong;
        int size = wrongSize(text.substring(0, sound));
        if (size >= 0) {
            return new int[] {size, 2};
        }
        return wrong < 0 ? null : new int[] {wrong, 1};
    }

    int fault(int what) {
        if (what < 0 || what > 1) {
            return INVALID;
        }
        int[] fault = faultOfText();
        return fault == null ? NOT_FOUND : fault[what];
    }

    int read() {
        if (faultOfText() != null) {
            return NOT_POSSIBLE;
        }
        String[] rows = text.split(";");
        State made = new State(rows.length, rows[0].split(",").length);
        for (int w = 0; w < rows.length; w++) {
            String[] parts = rows[w].split("/");
            String[] entries = parts[0].split(",");
            for (int t = 0; t < entries.length; t++) {
                made.costs[w][t] = entries[t].equals("x") ? -1 : Integer.parseInt(entries[t]);
            }
            made.idle[w] = Integer.parseInt(parts[1]);
        }
        change(made);
        return now.least();
    }
}
