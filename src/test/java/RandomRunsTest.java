import java.util.Random;

/** Holds long runs of calls, the same ones at each start, against the reference. */
final class RandomRunsTest {
    private static final int CALLS = 512;
    private static final int[] EDGES = {
        Integer.MIN_VALUE, -2, -1, 0, 1, 2, 3, 6, 7, 8, 127, 128, 9999, 10000, 2000000000, 2000000001, Integer.MAX_VALUE
    };

    private final Checks checks;
    private final Random random;
    private final int sizes;
    private final int costs;
    private PricedPairs pairs;
    private Reference reference;
    private int left;
    private String run;

    private RandomRunsTest(Checks checks, long seed, int sizes, int costs) {
        this.checks = checks;
        this.random = new Random(seed);
        this.sizes = sizes;
        this.costs = costs;
        this.run = "seed " + seed + ", sizes " + sizes + ", costs " + costs;
    }

    public static void main(String[] args) {
        Checks checks = new Checks();
        for (int seed = 0; seed < 150; seed++) {
            new RandomRunsTest(checks, seed, 3, 3).go();
            new RandomRunsTest(checks, seed, 4, 12).go();
            new RandomRunsTest(checks, seed, 4, 10000).go();
        }
        for (int seed = 0; seed < 15; seed++) {
            new RandomRunsTest(checks, seed, 5, 30).go();
            new RandomRunsTest(checks, seed, 6, 5).go();
        }
        for (int seed = 0; seed < 3; seed++) {
            new RandomRunsTest(checks, seed, 7, 4).go();
            new RandomRunsTest(checks, seed, 7, 10000).go();
        }
        checks.finish("RandomRunsTest");
    }

    private void go() {
        pairs = new PricedPairs();
        reference = new Reference();
        left = CALLS;
        if (isLarge() || random.nextInt(3) > 0) {
            fillTable();
        }
        int before = checks.failed();
        while (left > 0 && checks.failed() == before) {
            int kind = random.nextInt(100);
            if (kind < 4 && !isLarge()) {
                typeText();
            } else if (kind < 40) {
                change(random.nextInt(10));
            } else {
                ask(random.nextInt(16));
            }
        }
    }

    /** Then the table is to stay so: it is seldom made less, and no text is long enough for it. */
    private boolean isLarge() {
        return sizes > 4;
    }

    private void due(String call, int got, int want) {
        left--;
        checks.due(run + ", " + left + " calls left: " + call, got, want);
    }

    /** Mostly a number below the bound, at times one of the edges. */
    private int number(int below) {
        return random.nextInt(25) == 0 ? EDGES[random.nextInt(EDGES.length)] : random.nextInt(Math.max(below, 1));
    }

    private int aWorker() {
        return number(reference.count(0));
    }

    private int aTask() {
        return number(reference.count(1));
    }

    private int aTaskOrNone() {
        return random.nextInt(4) == 0 ? -1 : aTask();
    }

    private int aCost() {
        return number(costs);
    }

    private void fillTable() {
        for (int i = 0; i < sizes; i++) {
            addWorker(random.nextInt(costs));
            addTask();
        }
        for (int w = 0; w < sizes; w++) {
            for (int t = 0; t < sizes; t++) {
                if (random.nextInt(5) > 0) {
                    setCost(w, t, random.nextInt(costs));
                }
            }
        }
    }

    private void addWorker(int idle) {
        due("worker(" + idle + ")", pairs.worker(idle), reference.worker(idle));
    }

    private void addTask() {
        due("task()", pairs.task(), reference.task());
    }

    private void setCost(int w, int t, int c) {
        due("cost(" + w + ", " + t + ", " + c + ")", pairs.cost(w, t, c), reference.cost(w, t, c));
    }

    /** Tables larger than the sizes of the run are too dear for the reference, but the limits are tried at times. */
    private boolean mayGrow(int what) {
        return reference.count(what) < sizes || reference.count(what) == 7;
    }

    private void change(int kind) {
        int w = aWorker();
        int t = aTask();
        int c = aCost();
        switch (kind) {
            case 0:
                if (mayGrow(0)) {
                    addWorker(c);
                }
                break;
            case 1:
                if (mayGrow(1)) {
                    addTask();
                }
                break;
            case 2:
                if (random.nextInt(isLarge() ? 30 : 3) == 0) {
                    due("dropWorker(" + w + ")", pairs.dropWorker(w), reference.dropWorker(w));
                }
                break;
            case 3:
                if (random.nextInt(isLarge() ? 30 : 3) == 0) {
                    due("dropTask(" + t + ")", pairs.dropTask(t), reference.dropTask(t));
                }
                break;
            case 4:
            case 5:
                setCost(w, t, c);
                break;
            case 6:
                due("bar(" + w + ", " + t + ")", pairs.bar(w, t), reference.bar(w, t));
                break;
            case 7:
                due("idle(" + w + ", " + c + ")", pairs.idle(w, c), reference.idle(w, c));
                break;
            case 8:
                int factor = random.nextInt(3) == 0 ? number(20000) : number(4);
                due("times(" + w + ", " + factor + ")", pairs.times(w, factor), reference.times(w, factor));
                break;
            default:
                due("undo()", pairs.undo(), reference.undo());
        }
    }

    private void ask(int kind) {
        int w = aWorker();
        int t = aTask();
        int tn = aTaskOrNone();
        switch (kind) {
            case 0:
                due("costOf(" + w + ", " + tn + ")", pairs.costOf(w, tn), reference.costOf(w, tn));
                break;
            case 1:
                due("total()", pairs.total(), reference.total());
                break;
            case 2:
                due("taskOf(" + w + ")", pairs.taskOf(w), reference.taskOf(w));
                break;
            case 3:
                due("workerOf(" + t + ")", pairs.workerOf(t), reference.workerOf(t));
                break;
            case 4:
                int set = number(1 << reference.count(0));
                due("totalFor(" + set + ")", pairs.totalFor(set), reference.totalFor(set));
                break;
            case 5:
            case 6:
                int price = number(2);
                due("price(" + t + ", " + price + ")", pairs.price(t, price), reference.price(t, price));
                break;
            case 7:
            case 8:
                int is = number(4);
                due("workerIs(" + w + ", " + is + ")", pairs.workerIs(w, is), reference.workerIs(w, is));
                break;
            case 9:
                due("proof()", pairs.proof(), reference.proof());
                checks.due(run + ": proof() against total()", pairs.proof(), pairs.total());
                break;
            case 10:
            case 11:
                int of = number(3);
                due("pairOf(" + w + ", " + tn + ", " + of + ")", pairs.pairOf(w, tn, of), reference.pairOf(w, tn, of));
                break;
            case 12:
                due("room(" + w + ")", pairs.room(w), reference.room(w));
                break;
            case 13:
                int dearest = number(3);
                due("dearest(" + dearest + ")", pairs.dearest(dearest), reference.dearest(dearest));
                break;
            default:
                int count = number(9);
                due("count(" + count + ")", pairs.count(count), reference.count(count));
        }
    }

    private void typeText() {
        if (random.nextInt(4) > 0) {
            due("clearText()", pairs.clearText(), reference.clearText());
        }
        String text = aText();
        for (int i = 0; i < text.length(); i++) {
            int c = random.nextInt(500) == 0 ? random.nextInt(400) - 100 : text.charAt(i);
            due("type(" + c + ")", pairs.type(c), reference.type(c));
        }
        int what = number(2);
        due("fault(" + what + ") of " + text, pairs.fault(what), reference.fault(what));
        due("read() of " + text, pairs.read(), reference.read());
    }

    private String aText() {
        StringBuilder text = new StringBuilder();
        int rows = 1 + random.nextInt(sizes);
        int entries = 1 + random.nextInt(sizes);
        for (int w = 0; w < rows; w++) {
            text.append(w == 0 ? "" : ";");
            for (int t = 0; t < entries; t++) {
                text.append(t == 0 ? "" : ",").append(random.nextInt(4) == 0 ? "x" : "" + random.nextInt(costs));
            }
            text.append('/').append(random.nextInt(costs));
        }
        for (int damage = random.nextInt(3); damage > 0 && text.length() > 0; damage--) {
            int at = random.nextInt(text.length());
            char c = "0123456789x,/;;, a".charAt(random.nextInt(18));
            switch (random.nextInt(3)) {
                case 0:
                    text.setCharAt(at, c);
                    break;
                case 1:
                    text.insert(at, c);
                    break;
                default:
                    text.deleteCharAt(at);
            }
        }
        return text.toString();
    }
}
