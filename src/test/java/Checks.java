/** Counts the answers that are due and those that are not, and prints the latter. */
final class Checks {
    private int passed;
    private int failed;

    void due(String call, long got, long want) {
        if (got == want) {
            passed++;
            return;
        }
        failed++;
        if (failed <= 40) {
            System.out.println(call + " answered " + got + ", due is " + want);
        }
    }

    void due(String what, boolean holds) {
        due(what, holds ? 1 : 0, 1);
    }

    int failed() {
        return failed;
    }

    void finish(String name) {
        System.out.println(name + ":");
        System.out.println(passed + " passed, " + failed + " failed");
        if (failed != 0 || passed == 0) {
            System.exit(1);
        }
    }
}
