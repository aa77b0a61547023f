import java.util.Random;

/**
 * Rules 7 and 13 of the language: no call throws or fails to end, for any arguments in any state, also behind the 512th
 * call; and the same calls always give the same answers, whatever other objects do meanwhile.
 */
final class AnyCallsTest {
    private static final int CALLS = 3000;
    private static final int LEAST_ANSWER = -4;
    /** Changes stand more often, so that tables grow and change. */
    private static final String[] METHODS = {
        "worker(#)", "worker(#)", "task()", "task()", "dropWorker(#)", "dropTask(#)", "cost(#, #, #)", "cost(#, #, #)",
        "cost(#, #, #)", "cost(#, #, #)", "bar(#, #)", "idle(#, #)", "times(#, #)", "costOf(#, #)", "total()", "taskOf(#)",
        "workerOf(#)", "totalFor(#)", "price(#, #)", "workerIs(#, #)", "proof()", "pairOf(#, #, #)", "room(#)", "dearest(#)",
        "count(#)", "undo()", "clearText()", "fault(#)", "read()"
    };
    private static final int[] FAR = {
        Integer.MIN_VALUE, Integer.MIN_VALUE + 1, -65536, -128, -2, -1, 7, 8, 31, 32, 63, 64, 127, 128, 255, 9999, 10000,
        65536, 1 << 30, 2000000000, 2000000001, Integer.MAX_VALUE
    };
    private static final String SIGNS = "0123456789x,/;;//,,xx a";

    private final Random random;

    private AnyCallsTest(long seed) {
        random = new Random(seed);
    }

    public static void main(String[] args) {
        Checks checks = new Checks();
        for (int seed = 0; seed < 40; seed++) {
            new AnyCallsTest(seed).go(checks, seed);
        }
        checks.finish("AnyCallsTest");
    }

    private void go(Checks checks, int seed) {
        Script first = new Script(CALLS);
        Script second = new Script(CALLS);
        Script other = new Script(CALLS);
        for (int i = 0; i < CALLS; i++) {
            String call = anyCall();
            int answer = first.call(call);
            other.call(anyCall());
            String where = "seed " + seed + ", call " + i + ": " + call;
            checks.due(where + ", again", second.call(call), answer);
            checks.due(where + " answered " + answer + ", a number or an error,", answer >= LEAST_ANSWER);
        }
    }

    private String anyCall() {
        if (random.nextInt(6) == 0) {
            return "type(" + (int) SIGNS.charAt(random.nextInt(SIGNS.length())) + ")";
        }
        String call = METHODS[random.nextInt(METHODS.length)];
        while (call.contains("#")) {
            call = call.replaceFirst("#", "" + anyNumber());
        }
        return call;
    }

    private int anyNumber() {
        switch (random.nextInt(12)) {
            case 0:
                return FAR[random.nextInt(FAR.length)];
            case 1:
                return random.nextInt();
            default:
                return random.nextInt(7);
        }
    }
}
