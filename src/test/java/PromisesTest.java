/** Answers worked out by hand, promise by promise: ordinary inputs, edges, wrong inputs. */
final class PromisesTest {
    private static final int INVALID = -1;
    private static final int NOT_POSSIBLE = -2;
    private static final int LIMIT = -3;
    private static final int NOT_FOUND = -4;

    private static final Checks CHECKS = new Checks();

    public static void main(String[] args) {
        newObject();
        worker();
        task();
        dropWorker();
        dropTask();
        cost();
        bar();
        idle();
        times();
        costOf();
        total();
        taskOf();
        workerOf();
        totalFor();
        price();
        workerIs();
        proof();
        pairOf();
        room();
        dearest();
        count();
        undo();
        history();
        type();
        clearText();
        faultsOfCharacters();
        faultsOfSizes();
        faultArguments();
        read();
        sevenByseven();
        CHECKS.finish("PromisesTest");
    }

    private static void due(String call, int got, int want) {
        CHECKS.due(call, got, want);
    }

    private static void typeAll(PricedPairs pairs, String text) {
        for (int i = 0; i < text.length(); i++) {
            pairs.type(text.charAt(i));
        }
    }

    private static PricedPairs of(String text) {
        PricedPairs pairs = new PricedPairs();
        typeAll(pairs, text);
        CHECKS.due("read() of " + text, pairs.read() >= 0);
        return pairs;
    }

    /** Workers with idle costs of 20 and 15; the first plan is 0-1, 1-0, with a total of 12. */
    private static PricedPairs two() {
        return of("3,8/20;4,x/15");
    }

    private static void newObject() {
        PricedPairs pairs = new PricedPairs();
        int[] counts = {0, 0, 0, 0, 0, 0, 0, 0, 0};
        for (int what = 0; what < counts.length; what++) {
            due("1: count(" + what + ")", pairs.count(what), counts[what]);
        }
        due("1: total()", pairs.total(), 0);
        due("1: proof()", pairs.proof(), 0);
        due("1: totalFor(0)", pairs.totalFor(0), 0);
        due("1: totalFor(1)", pairs.totalFor(1), INVALID);
        due("1: taskOf(0)", pairs.taskOf(0), INVALID);
        due("1: workerOf(0)", pairs.workerOf(0), INVALID);
        due("1: dearest(0)", pairs.dearest(0), NOT_FOUND);
        due("1: undo()", pairs.undo(), NOT_POSSIBLE);
        due("1: fault(0)", pairs.fault(0), 0);
        due("1: fault(1)", pairs.fault(1), 1);
        due("1: clearText()", pairs.clearText(), 0);
    }

    private static void worker() {
        PricedPairs pairs = new PricedPairs();
        pairs.task();
        due("2: worker(-1)", pairs.worker(-1), INVALID);
        due("2: worker(10000)", pairs.worker(10000), INVALID);
        due("2: count(7) behind errors", pairs.count(7), 1);
        due("2: worker(0)", pairs.worker(0), 0);
        due("2: worker(9999)", pairs.worker(9999), 1);
        due("2: costOf(0, -1)", pairs.costOf(0, -1), 0);
        due("2: costOf(1, -1)", pairs.costOf(1, -1), 9999);
        due("2: costOf(1, 0)", pairs.costOf(1, 0), NOT_FOUND);
        for (int number = 2; number < 7; number++) {
            due("2: worker(5)", pairs.worker(5), number);
        }
        due("2: an eighth worker", pairs.worker(5), LIMIT);
        due("2: an eighth worker(-1)", pairs.worker(-1), INVALID);
        due("2: an eighth worker(10000)", pairs.worker(10000), INVALID);
        due("2: count(0)", pairs.count(0), 7);
        pairs.cost(6, 0, 3);
        pairs.dropWorker(6);
        due("2: worker(5) again", pairs.worker(5), 6);
        due("2: costOf(6, 0), barred again", pairs.costOf(6, 0), NOT_FOUND);
    }

    private static void task() {
        PricedPairs pairs = new PricedPairs();
        pairs.worker(9);
        for (int number = 0; number < 7; number++) {
            due("3: task()", pairs.task(), number);
            due("3: costOf(0, " + number + ")", pairs.costOf(0, number), NOT_FOUND);
        }
        due("3: an eighth task", pairs.task(), LIMIT);
        due("3: count(1)", pairs.count(1), 7);
        due("3: count(2)", pairs.count(2), 0);
        pairs.cost(0, 6, 3);
        pairs.dropTask(6);
        due("3: task() again", pairs.task(), 6);
        due("3: costOf(0, 6), barred again", pairs.costOf(0, 6), NOT_FOUND);
        due("3: total()", pairs.total(), 9);
    }

    private static void dropWorker() {
        PricedPairs pairs = of("1,2/10;3,x/20;5,6/30");
        due("4: dropWorker(-1)", pairs.dropWorker(-1), INVALID);
        due("4: dropWorker(3)", pairs.dropWorker(3), INVALID);
        due("4: count(7)", pairs.count(7), 1);
        due("4: dropWorker(0)", pairs.dropWorker(0), 2);
        due("4: costOf(0, 0)", pairs.costOf(0, 0), 3);
        due("4: costOf(0, 1)", pairs.costOf(0, 1), NOT_FOUND);
        due("4: costOf(0, -1)", pairs.costOf(0, -1), 20);
        due("4: costOf(1, 1)", pairs.costOf(1, 1), 6);
        due("4: costOf(1, -1)", pairs.costOf(1, -1), 30);
        due("4: costOf(2, -1)", pairs.costOf(2, -1), INVALID);
        due("4: total()", pairs.total(), 9);
        due("4: dropWorker(1)", pairs.dropWorker(1), 1);
        due("4: dropWorker(0)", pairs.dropWorker(0), 0);
        due("4: dropWorker(0) of none", pairs.dropWorker(0), INVALID);
        due("4: count(1)", pairs.count(1), 2);
        due("4: total() of none", pairs.total(), 0);
    }

    private static void dropTask() {
        PricedPairs pairs = of("1,x,3/10;4,5,6/20");
        due("5: dropTask(-1)", pairs.dropTask(-1), INVALID);
        due("5: dropTask(3)", pairs.dropTask(3), INVALID);
        due("5: count(7)", pairs.count(7), 1);
        due("5: dropTask(0)", pairs.dropTask(0), 2);
        due("5: costOf(0, 0)", pairs.costOf(0, 0), NOT_FOUND);
        due("5: costOf(0, 1)", pairs.costOf(0, 1), 3);
        due("5: costOf(1, 0)", pairs.costOf(1, 0), 5);
        due("5: costOf(1, 1)", pairs.costOf(1, 1), 6);
        due("5: costOf(1, 2)", pairs.costOf(1, 2), INVALID);
        due("5: total()", pairs.total(), 8);
        due("5: dropTask(1)", pairs.dropTask(1), 1);
        due("5: dropTask(0)", pairs.dropTask(0), 0);
        due("5: dropTask(0) of none", pairs.dropTask(0), INVALID);
        due("5: total() of idle ones", pairs.total(), 30);
        due("5: count(0)", pairs.count(0), 2);
    }

    private static void cost() {
        PricedPairs pairs = new PricedPairs();
        pairs.worker(9999);
        pairs.task();
        due("6: cost(1, 0, 5)", pairs.cost(1, 0, 5), INVALID);
        due("6: cost(-1, 0, 5)", pairs.cost(-1, 0, 5), INVALID);
        due("6: cost(0, 1, 5)", pairs.cost(0, 1, 5), INVALID);
        due("6: cost(0, -1, 5)", pairs.cost(0, -1, 5), INVALID);
        due("6: cost(0, 0, -1)", pairs.cost(0, 0, -1), INVALID);
        due("6: cost(0, 0, 10000)", pairs.cost(0, 0, 10000), INVALID);
        due("6: count(7)", pairs.count(7), 2);
        due("6: cost(0, 0, 9999)", pairs.cost(0, 0, 9999), 100000);
        due("6: cost(0, 0, 0)", pairs.cost(0, 0, 0), 90001);
        due("6: costOf(0, 0)", pairs.costOf(0, 0), 0);
        due("6: cost(0, 0, 9999) again", pairs.cost(0, 0, 9999), 109999);
        due("6: cost(0, 0, 9999) as it is", pairs.cost(0, 0, 9999), 100000);
        due("6: count(7) behind it", pairs.count(7), 4);
    }

    private static void bar() {
        PricedPairs pairs = two();
        due("7: bar(2, 0)", pairs.bar(2, 0), INVALID);
        due("7: bar(-1, 0)", pairs.bar(-1, 0), INVALID);
        due("7: bar(0, 2)", pairs.bar(0, 2), INVALID);
        due("7: bar(0, -1)", pairs.bar(0, -1), INVALID);
        due("7: bar(1, 1)", pairs.bar(1, 1), NOT_POSSIBLE);
        due("7: count(7)", pairs.count(7), 1);
        due("7: bar(0, 0)", pairs.bar(0, 0), 0);
        due("7: costOf(0, 0)", pairs.costOf(0, 0), NOT_FOUND);
        due("7: bar(0, 0) again", pairs.bar(0, 0), NOT_POSSIBLE);
        due("7: bar(0, 1)", pairs.bar(0, 1), 12);
        due("7: bar(1, 0)", pairs.bar(1, 0), 11);
        due("7: total()", pairs.total(), 35);
        due("7: count(2)", pairs.count(2), 0);
    }

    private static void idle() {
        PricedPairs pairs = two();
        due("8: idle(2, 5)", pairs.idle(2, 5), INVALID);
        due("8: idle(-1, 5)", pairs.idle(-1, 5), INVALID);
        due("8: idle(0, -1)", pairs.idle(0, -1), INVALID);
        due("8: idle(0, 10000)", pairs.idle(0, 10000), INVALID);
        due("8: count(7)", pairs.count(7), 1);
        due("8: idle(0, 0)", pairs.idle(0, 0), 20);
        due("8: total()", pairs.total(), 4);
        due("8: idle(0, 9999)", pairs.idle(0, 9999), 0);
        due("8: idle(0, 9999) as it is", pairs.idle(0, 9999), 9999);
        due("8: total() again", pairs.total(), 12);
        due("8: count(7) behind it", pairs.count(7), 4);
    }

    private static void times() {
        PricedPairs pairs = of("3,x,7/4;8,0,1/9");
        due("9: times(2, 1)", pairs.times(2, 1), INVALID);
        due("9: times(-1, 1)", pairs.times(-1, 1), INVALID);
        due("9: times(0, -1)", pairs.times(0, -1), INVALID);
        due("9: times(0, 2000000001)", pairs.times(0, 2000000001), INVALID);
        due("9: times(0, 2000000000)", pairs.times(0, 2000000000), LIMIT);
        due("9: times(0, 1429)", pairs.times(0, 1429), LIMIT);
        due("9: times(0, 613566757), 3 beyond all bits of an int", pairs.times(0, 613566757), LIMIT);
        due("9: count(7)", pairs.count(7), 1);
        due("9: times(0, 1428)", pairs.times(0, 1428), 9996);
        due("9: costOf(0, 0)", pairs.costOf(0, 0), 4284);
        due("9: costOf(0, 1)", pairs.costOf(0, 1), NOT_FOUND);
        due("9: costOf(0, -1)", pairs.costOf(0, -1), 5712);
        due("9: costOf(1, 0) of the other worker", pairs.costOf(1, 0), 8);
        due("9: times(1, 1111), by the idle cost", pairs.times(1, 1111), 9999);
        due("9: times(1, 1)", pairs.times(1, 1), 9999);
        due("9: times(1, 2)", pairs.times(1, 2), LIMIT);
        due("9: times(1, 0)", pairs.times(1, 0), 0);
        due("9: times(1, 2000000000) of zeros", pairs.times(1, 2000000000), 0);
        due("9: costOf(1, -1)", pairs.costOf(1, -1), 0);
        due("9: costOf(0, 1), still barred", pairs.costOf(0, 1), NOT_FOUND);
        due("9: times(0, 0)", pairs.times(0, 0), 0);
        due("9: times(0, 1111) of the first pair", of("9,x/2").times(0, 1111), 9999);
        due("9: times(0, 1112) of the first pair", of("9,x/2").times(0, 1112), LIMIT);
        due("9: times(0, 1112) of the last pair", of("x,9/2").times(0, 1112), LIMIT);
        due("9: costOf(0, 1), barred all the same", pairs.costOf(0, 1), NOT_FOUND);
        due("9: costOf(0, 2)", pairs.costOf(0, 2), 0);
    }

    private static void costOf() {
        PricedPairs pairs = two();
        due("10: costOf(0, 1)", pairs.costOf(0, 1), 8);
        due("10: costOf(1, 0)", pairs.costOf(1, 0), 4);
        due("10: costOf(1, 1)", pairs.costOf(1, 1), NOT_FOUND);
        due("10: costOf(0, -1)", pairs.costOf(0, -1), 20);
        due("10: costOf(1, -1)", pairs.costOf(1, -1), 15);
        due("10: costOf(2, 0)", pairs.costOf(2, 0), INVALID);
        due("10: costOf(-1, 0)", pairs.costOf(-1, 0), INVALID);
        due("10: costOf(-1, -1)", pairs.costOf(-1, -1), INVALID);
        due("10: costOf(0, 2)", pairs.costOf(0, 2), INVALID);
        due("10: costOf(0, -2)", pairs.costOf(0, -2), INVALID);
    }

    private static void total() {
        due("11: total()", two().total(), 12);
        due("11: total() of greedy ones", of("1,2/99;1,9/99").total(), 3);
        due("11: total() of one who stays idle", of("1/5;1/4").total(), 5);
        due("11: total() of dear pairs", of("9999,9999/0;9999,9999/0").total(), 0);
        due("11: total() of the dearest", of("9999/9999;x/9999").total(), 19998);
    }

    private static void taskOf() {
        PricedPairs pairs = two();
        due("12: taskOf(0)", pairs.taskOf(0), 1);
        due("12: taskOf(1)", pairs.taskOf(1), 0);
        due("12: taskOf(2)", pairs.taskOf(2), INVALID);
        due("12: taskOf(-1)", pairs.taskOf(-1), INVALID);
        pairs = of("5,5/5;5,5/5");
        due("12: taskOf(0) of ties", pairs.taskOf(0), 0);
        due("12: taskOf(1) of ties", pairs.taskOf(1), 1);
        pairs = of("5/5;5/5");
        due("12: taskOf(0), none last", pairs.taskOf(0), 0);
        due("12: taskOf(1), nothing left", pairs.taskOf(1), NOT_FOUND);
        pairs = of("6,1/5;0,1/5");
        due("12: taskOf(0), not greedy by number", pairs.taskOf(0), 1);
        due("12: taskOf(1), not greedy by number", pairs.taskOf(1), 0);
    }

    private static void workerOf() {
        PricedPairs pairs = two();
        due("13: workerOf(0)", pairs.workerOf(0), 1);
        due("13: workerOf(1)", pairs.workerOf(1), 0);
        due("13: workerOf(2)", pairs.workerOf(2), INVALID);
        due("13: workerOf(-1)", pairs.workerOf(-1), INVALID);
        pairs = of("1,9,2/5;1,9,2/5");
        due("13: workerOf(0) of ties", pairs.workerOf(0), 0);
        due("13: workerOf(1), nobody", pairs.workerOf(1), NOT_FOUND);
        due("13: workerOf(2) of ties", pairs.workerOf(2), 1);
        pairs = new PricedPairs();
        pairs.task();
        due("13: workerOf(0) without workers", pairs.workerOf(0), NOT_FOUND);
    }

    private static void totalFor() {
        PricedPairs pairs = two();
        due("14: totalFor(0)", pairs.totalFor(0), 0);
        due("14: totalFor(1)", pairs.totalFor(1), 3);
        due("14: totalFor(2)", pairs.totalFor(2), 4);
        due("14: totalFor(3)", pairs.totalFor(3), 12);
        due("14: totalFor(4)", pairs.totalFor(4), INVALID);
        due("14: totalFor(5)", pairs.totalFor(5), INVALID);
        due("14: totalFor(-1)", pairs.totalFor(-1), INVALID);
        due("14: totalFor(least)", pairs.totalFor(Integer.MIN_VALUE), INVALID);
        due("14: total() behind it", pairs.total(), 12);
    }

    private static void price() {
        PricedPairs pairs = two();
        due("15: price(0, 0)", pairs.price(0, 0), 5);
        due("15: price(0, 1)", pairs.price(0, 1), 11);
        due("15: price(1, 0)", pairs.price(1, 0), 0);
        due("15: price(1, 1)", pairs.price(1, 1), 6);
        due("15: price(2, 0)", pairs.price(2, 0), INVALID);
        due("15: price(-1, 0)", pairs.price(-1, 0), INVALID);
        due("15: price(0, 2)", pairs.price(0, 2), INVALID);
        due("15: price(0, -1)", pairs.price(0, -1), INVALID);
        pairs = of("x,7/4;x,1/9;x,0/6");
        due("15: price(0, 0) of a task that all are barred from", pairs.price(0, 0), 0);
        due("15: price(0, 1) of a task that all are barred from", pairs.price(0, 1), 0);
        due("15: price(1, 0), for the second of three", pairs.price(1, 0), 6);
        due("15: price(1, 1)", pairs.price(1, 1), 8);
        pairs.dropWorker(2);
        due("15: price(1, 0), for the first of two", pairs.price(1, 0), 0);
        pairs.idle(0, 16);
        due("15: price(1, 0), for the first of two who stays idle", pairs.price(1, 0), 8);
        due("15: price(0, 0), none as before", pairs.price(0, 0), 0);
    }

    private static void workerIs() {
        PricedPairs pairs = two();
        due("16: workerIs(0, 0)", pairs.workerIs(0, 0), 8);
        due("16: workerIs(1, 0)", pairs.workerIs(1, 0), 9);
        due("16: workerIs(0, 1)", pairs.workerIs(0, 1), 3);
        due("16: workerIs(1, 1)", pairs.workerIs(1, 1), 1);
        due("16: workerIs(0, 2)", pairs.workerIs(0, 2), 0);
        due("16: workerIs(0, 3)", pairs.workerIs(0, 3), 8);
        due("16: workerIs(1, 3)", pairs.workerIs(1, 3), 9);
        due("16: workerIs(2, 0)", pairs.workerIs(2, 0), INVALID);
        due("16: workerIs(-1, 0)", pairs.workerIs(-1, 0), INVALID);
        due("16: workerIs(0, 4)", pairs.workerIs(0, 4), INVALID);
        due("16: workerIs(0, -1)", pairs.workerIs(0, -1), INVALID);
        pairs = of("5,7/2;x,3/3");
        due("16: workerIs(0, 0) of an idle one", pairs.workerIs(0, 0), 2);
        due("16: workerIs(0, 1) of an idle one", pairs.workerIs(0, 1), 0);
        due("16: workerIs(0, 2) of an idle one", pairs.workerIs(0, 2), 1);
        due("16: workerIs(0, 3) of an idle one", pairs.workerIs(0, 3), 2);
        due("16: workerIs(1, 1), tight and idle alike", pairs.workerIs(1, 1), 2);
        due("16: workerIs(1, 2), tight and idle alike", pairs.workerIs(1, 2), 1);
    }

    private static void proof() {
        due("17: proof()", two().proof(), 12);
        due("17: proof() of one who stays idle", of("1/5;1/4").proof(), 5);
        PricedPairs pairs = new PricedPairs();
        pairs.task();
        due("17: proof() without workers", pairs.proof(), 0);
        pairs.dropTask(0);
        pairs.worker(8);
        due("17: proof() without tasks", pairs.proof(), 8);
    }

    private static void pairOf() {
        PricedPairs pairs = two();
        due("18: pairOf(0, 0, 0)", pairs.pairOf(0, 0, 0), 0);
        due("18: pairOf(0, 0, 1)", pairs.pairOf(0, 0, 1), 0);
        due("18: pairOf(0, 0, 2)", pairs.pairOf(0, 0, 2), 6);
        due("18: pairOf(0, 1, 0)", pairs.pairOf(0, 1, 0), 1);
        due("18: pairOf(0, 1, 1)", pairs.pairOf(0, 1, 1), 1);
        due("18: pairOf(0, 1, 2)", pairs.pairOf(0, 1, 2), 0);
        due("18: pairOf(0, -1, 0)", pairs.pairOf(0, -1, 0), 0);
        due("18: pairOf(0, -1, 1)", pairs.pairOf(0, -1, 1), 0);
        due("18: pairOf(0, -1, 2)", pairs.pairOf(0, -1, 2), 12);
        due("18: pairOf(1, 1, 0), barred", pairs.pairOf(1, 1, 0), NOT_FOUND);
        due("18: pairOf(1, 1, 3), barred", pairs.pairOf(1, 1, 3), INVALID);
        due("18: pairOf(0, 0, 3)", pairs.pairOf(0, 0, 3), INVALID);
        due("18: pairOf(0, 0, -1)", pairs.pairOf(0, 0, -1), INVALID);
        due("18: pairOf(2, 0, 0)", pairs.pairOf(2, 0, 0), INVALID);
        due("18: pairOf(-1, 0, 0)", pairs.pairOf(-1, 0, 0), INVALID);
        due("18: pairOf(0, 2, 0)", pairs.pairOf(0, 2, 0), INVALID);
        due("18: pairOf(0, -2, 0)", pairs.pairOf(0, -2, 0), INVALID);
        pairs = of("5,5/5");
        for (int task = -1; task < 2; task++) {
            due("18: pairOf(0, " + task + ", 0) of ties", pairs.pairOf(0, task, 0), 1);
            due("18: pairOf(0, " + task + ", 1) of ties", pairs.pairOf(0, task, 1), 0);
        }
        pairs = of("9/5;x/0");
        due("18: pairOf(0, -1, 1), sure", pairs.pairOf(0, -1, 1), 1);
        due("18: pairOf(0, 0, 2)", pairs.pairOf(0, 0, 2), 4);
        due("18: pairOf(1, -1, 1), nothing else is left", pairs.pairOf(1, -1, 1), 1);
        due("18: pairOf(1, -1, 2)", pairs.pairOf(1, -1, 2), 0);
    }

    private static void room() {
        PricedPairs pairs = two();
        due("19: room(0)", pairs.room(0), 6);
        due("19: room(1)", pairs.room(1), 6);
        due("19: room(2)", pairs.room(2), INVALID);
        due("19: room(-1)", pairs.room(-1), INVALID);
        pairs = of("0/9999;7/8;3/3");
        due("19: room(0), up to another worker", pairs.room(0), 9998);
        due("19: room(1), idle", pairs.room(1), NOT_FOUND);
        due("19: room(0) of ties", of("5,5/9").room(0), 0);
        due("19: room(0), up to being idle", of("5/9").room(0), 4);
    }

    private static void dearest() {
        PricedPairs pairs = of("1,x,x/5;x,2,x/9;x,x,3/10");
        due("20: dearest(0)", pairs.dearest(0), 1);
        due("20: dearest(1)", pairs.dearest(1), 1);
        due("20: dearest(2)", pairs.dearest(2), 7);
        due("20: dearest(3)", pairs.dearest(3), INVALID);
        due("20: dearest(-1)", pairs.dearest(-1), INVALID);
        pairs = of("4,4,x/2;7,7,6/7;8,6,8/9");
        due("20: dearest(0), the first is idle", pairs.dearest(0), 2);
        due("20: dearest(1), the first is idle", pairs.dearest(1), 1);
        due("20: dearest(2), the first is idle", pairs.dearest(2), 2);
        pairs = of("9/2;5/0");
        due("20: dearest(0), all are idle", pairs.dearest(0), NOT_FOUND);
        due("20: dearest(3), all are idle", pairs.dearest(3), INVALID);
        pairs = of("x,5/5;5,x/5");
        due("20: dearest(0), as it is", pairs.dearest(0), 0);
        due("20: dearest(1), as it is", pairs.dearest(1), 1);
        due("20: dearest(2), as it is", pairs.dearest(2), 0);
    }

    private static void count() {
        PricedPairs pairs = two();
        int[] counts = {2, 2, 3, 2, 3, 5, 17, 1, 13};
        for (int what = 0; what < counts.length; what++) {
            due("21: count(" + what + ")", pairs.count(what), counts[what]);
        }
        pairs.dropWorker(1);
        due("21: count(5) of one", pairs.count(5), 0);
        due("21: count(-1)", pairs.count(-1), INVALID);
        due("21: count(9)", pairs.count(9), INVALID);
        pairs = of("x,x,x/5;1,x,9/5");
        int[] others = {2, 3, 2, 1, 1, 0, 4, 1, 15};
        for (int what = 0; what < others.length; what++) {
            due("21: count(" + what + ") of the other", pairs.count(what), others[what]);
        }
    }

    private static void undo() {
        PricedPairs pairs = new PricedPairs();
        pairs.worker(30);
        pairs.task();
        pairs.cost(0, 0, 4);
        pairs.times(0, 2);
        due("22: undo() of times", pairs.undo(), 3);
        due("22: costOf(0, 0)", pairs.costOf(0, 0), 4);
        due("22: costOf(0, -1)", pairs.costOf(0, -1), 30);
        pairs.idle(0, 1);
        due("22: undo() of idle", pairs.undo(), 3);
        due("22: costOf(0, -1) again", pairs.costOf(0, -1), 30);
        pairs.bar(0, 0);
        due("22: undo() of bar", pairs.undo(), 3);
        due("22: costOf(0, 0) again", pairs.costOf(0, 0), 4);
        pairs.dropWorker(0);
        due("22: undo() of dropWorker", pairs.undo(), 3);
        due("22: costOf(0, 0) of the worker", pairs.costOf(0, 0), 4);
        pairs.dropTask(0);
        due("22: undo() of dropTask", pairs.undo(), 3);
        due("22: costOf(0, 0) of the task", pairs.costOf(0, 0), 4);
        typeAll(pairs, "7,8/9;1,2/3");
        pairs.read();
        due("22: undo() of read", pairs.undo(), 3);
        due("22: count(0)", pairs.count(0), 1);
        due("22: count(1)", pairs.count(1), 1);
        due("22: count(8), the text stays", pairs.count(8), 11);
        due("22: undo() of cost", pairs.undo(), 2);
        due("22: costOf(0, 0), barred", pairs.costOf(0, 0), NOT_FOUND);
        due("22: undo() of task", pairs.undo(), 1);
        due("22: count(1), none", pairs.count(1), 0);
        due("22: undo() of worker", pairs.undo(), 0);
        due("22: count(0), none", pairs.count(0), 0);
        due("22: undo() of nothing", pairs.undo(), NOT_POSSIBLE);
    }

    private static void history() {
        PricedPairs pairs = new PricedPairs();
        for (int idle = 0; idle < 7; idle++) {
            pairs.worker(idle);
            due("22: count(7)", pairs.count(7), Math.min(idle + 1, 4));
        }
        pairs.worker(7);
        pairs.clearText();
        due("22: count(7) behind no changes", pairs.count(7), 4);
        for (int left = 3; left >= 0; left--) {
            due("22: undo()", pairs.undo(), left);
            due("22: count(0)", pairs.count(0), 3 + left);
        }
        due("22: undo(), the oldest ones are dropped", pairs.undo(), NOT_POSSIBLE);
        due("22: count(0)", pairs.count(0), 3);
        due("22: costOf(2, -1)", pairs.costOf(2, -1), 2);
        pairs.idle(2, 50);
        pairs.idle(2, 60);
        due("22: undo() of the last", pairs.undo(), 1);
        due("22: costOf(2, -1) of the last", pairs.costOf(2, -1), 50);
    }

    private static void type() {
        PricedPairs pairs = new PricedPairs();
        due("23: type(31)", pairs.type(31), INVALID);
        due("23: type(127)", pairs.type(127), INVALID);
        due("23: type(-1)", pairs.type(-1), INVALID);
        due("23: type(65536 + 49)", pairs.type(65536 + 49), INVALID);
        due("23: type(32)", pairs.type(32), 1);
        due("23: type(126)", pairs.type(126), 2);
        for (int length = 3; length <= 80; length++) {
            due("23: type(49)", pairs.type(49), length);
        }
        due("23: type(49), full", pairs.type(49), LIMIT);
        due("23: type(31), full", pairs.type(31), INVALID);
        due("23: count(8)", pairs.count(8), 80);
        due("23: count(7)", pairs.count(7), 0);
    }

    private static void clearText() {
        PricedPairs pairs = new PricedPairs();
        typeAll(pairs, "1/2");
        due("24: clearText()", pairs.clearText(), 3);
        due("24: clearText() again", pairs.clearText(), 0);
        due("24: count(8)", pairs.count(8), 0);
        due("24: fault(0)", pairs.fault(0), 0);
        due("24: count(7)", pairs.count(7), 0);
        typeAll(pairs, "3/4");
        due("24: read()", pairs.read(), 3);
    }

    private static void dueFault(String text, int place, int reason) {
        PricedPairs pairs = new PricedPairs();
        typeAll(pairs, text);
        due("25: fault(0) of \"" + text + "\"", pairs.fault(0), place);
        due("25: fault(1) of \"" + text + "\"", pairs.fault(1), reason);
        due("26: read() of \"" + text + "\"", pairs.read(), NOT_POSSIBLE);
        due("26: count(7) of \"" + text + "\"", pairs.count(7), 0);
    }

    private static void faultsOfCharacters() {
        dueFault("", 0, 1);
        dueFault("1", 1, 1);
        dueFault("x", 1, 1);
        dueFault("1/", 2, 1);
        dueFault("1,", 2, 1);
        dueFault("1/2;", 4, 1);
        dueFault("/2", 0, 1);
        dueFault(",1/2", 0, 1);
        dueFault(";1/2", 0, 1);
        dueFault("1,,2/3", 2, 1);
        dueFault("1,/3", 2, 1);
        dueFault("1;2/3", 1, 1);
        dueFault("01/2", 1, 1);
        dueFault("00/2", 1, 1);
        dueFault("12345/2", 4, 1);
        dueFault("1/02", 3, 1);
        dueFault("1/12345", 6, 1);
        dueFault("x1/2", 1, 1);
        dueFault("1x/2", 1, 1);
        dueFault("xx/2", 1, 1);
        dueFault("X/2", 0, 1);
        dueFault("1/x", 2, 1);
        dueFault("1//2", 2, 1);
        dueFault("1/2/3", 3, 1);
        dueFault("1/2,3", 3, 1);
        dueFault("1/2;;", 4, 1);
        dueFault("1/2;3/4;", 8, 1);
        dueFault(" 1/2", 0, 1);
        dueFault("1/2 ", 3, 1);
        dueFault("-1/2", 0, 1);
        dueFault("1/2;/3", 4, 1);
        dueFault("1,2/3;4,/5", 8, 1);
        dueFault("0,0,0,0,0,0,0/5;0,0,0,0,0,0,0/5;0,0,0,0,0,0,0/5;0,0,0,0,0,0,0/5;0,0,0,0,0,0,0/5;", 80, 1);
    }

    private static void faultsOfSizes() {
        dueFault("1,2,3,4,5,6,7,8/9", 13, 2);
        dueFault("1,2,3,4,5,6,7,", 13, 2);
        dueFault("1/2;3,4/5", 5, 2);
        dueFault("1/2;3,", 5, 2);
        dueFault("1,2/3;4/5", 7, 2);
        dueFault("1,2/3;4,5,6/7", 9, 2);
        dueFault("1,x,3/3;x,x/5", 11, 2);
        dueFault("x/0;x/0;x/0;x/0;x/0;x/0;x/0;x/0", 27, 2);
        dueFault("x/0;x/0;x/0;x/0;x/0;x/0;x/0;", 27, 2);
        dueFault("1/2;3,a", 5, 2);
        dueFault("1/2;3a,4/5", 5, 1);
    }

    private static void faultArguments() {
        PricedPairs pairs = new PricedPairs();
        due("25: fault(-1)", pairs.fault(-1), INVALID);
        due("25: fault(2)", pairs.fault(2), INVALID);
        typeAll(pairs, "1,2,3,4,5,6,x/9");
        due("25: fault(0) of none", pairs.fault(0), NOT_FOUND);
        due("25: fault(1) of none", pairs.fault(1), NOT_FOUND);
        due("25: fault(2) of none", pairs.fault(2), INVALID);
    }

    private static void read() {
        PricedPairs pairs = new PricedPairs();
        typeAll(pairs, "0,x,9999/10;1000,20,x/0");
        due("26: read()", pairs.read(), 0);
        due("26: count(8), the text stays", pairs.count(8), 23);
        due("26: count(7)", pairs.count(7), 1);
        due("26: count(0)", pairs.count(0), 2);
        due("26: count(1)", pairs.count(1), 3);
        int[][] costs = {{10, 0, NOT_FOUND, 9999}, {0, 1000, 20, NOT_FOUND}};
        for (int worker = 0; worker < 2; worker++) {
            for (int task = -1; task < 3; task++) {
                due("26: costOf(" + worker + ", " + task + ")", pairs.costOf(worker, task), costs[worker][task + 1]);
            }
        }
        due("26: read() again", pairs.read(), 0);
        due("26: count(7) again", pairs.count(7), 2);
        pairs.clearText();
        typeAll(pairs, "7/8");
        due("26: read() of less", pairs.read(), 7);
        due("26: count(0) of less", pairs.count(0), 1);
        due("26: count(1) of less", pairs.count(1), 1);
        due("26: count(2) of less", pairs.count(2), 1);
        pairs.clearText();
        typeAll(pairs, "x/2;");
        due("26: read() of a fault", pairs.read(), NOT_POSSIBLE);
        due("26: total() behind it", pairs.total(), 7);
        due("26: count(7) behind it", pairs.count(7), 3);
        String full = "0,0,0,0,0,0,0/5;0,0,0,0,0,0,0/5;0,0,0,0,0,0,0/5;0,0,0,0,0,0,0/5;10,0,0,0,0,0,0/5";
        due("26: count(8) of 80", of(full).count(8), 80);
        due("26: count(0) of seven rows", of("x/1;x/2;x/3;x/4;x/5;x/6;x/7").count(0), 7);
        due("26: total() of seven rows", of("x/1;x/2;x/3;x/4;x/5;x/6;x/7").total(), 28);
    }

    /** Worker w has the task (w + 3) % 7 for 10 + w, all others for 500. */
    private static void sevenByseven() {
        PricedPairs pairs = new PricedPairs();
        for (int i = 0; i < 7; i++) {
            pairs.worker(9999);
            pairs.task();
        }
        for (int w = 0; w < 7; w++) {
            for (int t = 0; t < 7; t++) {
                pairs.cost(w, t, t == (w + 3) % 7 ? 10 + w : 500);
            }
        }
        due("11: total() of 7 and 7", pairs.total(), 91);
        due("21: count(2) of 7 and 7", pairs.count(2), 49);
        due("21: count(3) of 7 and 7", pairs.count(3), 7);
        for (int w = 0; w < 7; w++) {
            due("12: taskOf(" + w + ") of 7 and 7", pairs.taskOf(w), (w + 3) % 7);
            due("13: workerOf(" + w + ") of 7 and 7", pairs.workerOf(w), (w + 4) % 7);
        }
        due("14: totalFor(127)", pairs.totalFor(127), 91);
        due("14: totalFor(128)", pairs.totalFor(128), INVALID);
        due("14: totalFor(64)", pairs.totalFor(64), 16);
        due("15: price(3, 0) of 7 and 7", pairs.price(3, 0), 0);
        due("15: price(3, 1) of 7 and 7", pairs.price(3, 1), 9989);
        due("17: proof() of 7 and 7", pairs.proof(), 91);
        due("18: pairOf(0, 4, 2), two in exchange", pairs.pairOf(0, 4, 2), 979);
        due("19: room(0) of 7 and 7, the dearest other one in exchange", pairs.room(0), 974);
        due("20: dearest(0) of 7 and 7", pairs.dearest(0), 0);
        due("20: dearest(1) of 7 and 7", pairs.dearest(1), 3);
        due("20: dearest(2) of 7 and 7", pairs.dearest(2), 974);
    }

    private PromisesTest() {
    }
}
