import java.util.Arrays;

/** One object and its calls, told as texts such as "cost(0, 1, 5)". Unless a test says so, no object may get more than 512. */
final class Script {
    private static final int MOST_CALLS = 512;

    private final PricedPairs pairs = new PricedPairs();
    private final int mostCalls;
    private int calls;

    Script() {
        this(MOST_CALLS);
    }

    Script(int mostCalls) {
        this.mostCalls = mostCalls;
    }

    int call(String call) {
        calls++;
        if (calls > mostCalls) {
            throw new IllegalStateException("the test itself is wrong: a call too many, " + call);
        }
        int open = call.indexOf('(');
        String inside = call.substring(open + 1, call.length() - 1).trim();
        int[] arguments = inside.isEmpty()
            ? new int[0]
            : Arrays.stream(inside.split(",")).map(String::trim).mapToInt(Integer::parseInt).toArray();
        return answer(call.substring(0, open) + arguments.length, arguments);
    }

    void type(String text) {
        for (int i = 0; i < text.length(); i++) {
            call("type(" + (int) text.charAt(i) + ")");
        }
    }

    private int answer(String nameAndCount, int[] a) {
        switch (nameAndCount) {
            case "worker1": return pairs.worker(a[0]);
            case "task0": return pairs.task();
            case "dropWorker1": return pairs.dropWorker(a[0]);
            case "dropTask1": return pairs.dropTask(a[0]);
            case "cost3": return pairs.cost(a[0], a[1], a[2]);
            case "bar2": return pairs.bar(a[0], a[1]);
            case "idle2": return pairs.idle(a[0], a[1]);
            case "times2": return pairs.times(a[0], a[1]);
            case "costOf2": return pairs.costOf(a[0], a[1]);
            case "total0": return pairs.total();
            case "taskOf1": return pairs.taskOf(a[0]);
            case "workerOf1": return pairs.workerOf(a[0]);
            case "totalFor1": return pairs.totalFor(a[0]);
            case "price2": return pairs.price(a[0], a[1]);
            case "workerIs2": return pairs.workerIs(a[0], a[1]);
            case "proof0": return pairs.proof();
            case "pairOf3": return pairs.pairOf(a[0], a[1], a[2]);
            case "room1": return pairs.room(a[0]);
            case "dearest1": return pairs.dearest(a[0]);
            case "count1": return pairs.count(a[0]);
            case "undo0": return pairs.undo();
            case "type1": return pairs.type(a[0]);
            case "clearText0": return pairs.clearText();
            case "fault1": return pairs.fault(a[0]);
            case "read0": return pairs.read();
            default: throw new IllegalStateException("the test itself is wrong: no call " + nameAndCount);
        }
    }
}
