/**
 * Runs of calls on a new object, each told with the sentence of the document that it would show broken.
 *
 * A step is one of these:
 * "cost(0, 1, 5) = 99983": a call and the answer that is due, a number or the name of an error;
 * "cost(0, 1, 5)": a call that may answer anything but an error;
 * "6x task()": such a call so many times;
 * "type 1,2/3": characters behind the text;
 * "table 1,2/3;4,5/6": a new text, which is read, and then cleared again;
 * "square 7 20 30": as many workers, with an idle cost of 30, and tasks, all pairs with a cost of 20.
 */
final class Runs {
    static final int INVALID = -1;
    static final int NOT_POSSIBLE = -2;
    static final int LIMIT = -3;
    static final int NOT_FOUND = -4;

    private final Checks checks;

    Runs(Checks checks) {
        this.checks = checks;
    }

    /** Answers the object, for more calls. */
    Script due(String sentence, String... steps) {
        Script script = new Script();
        for (int i = 0; i < steps.length; i++) {
            step(script, sentence + ", step " + (i + 1), steps[i]);
        }
        return script;
    }

    private void step(Script script, String where, String step) {
        if (step.startsWith("type ")) {
            script.type(step.substring(5));
        } else if (step.startsWith("table ")) {
            script.call("clearText()");
            script.type(step.substring(6));
            taken(script, where + ", " + step, "read()");
            script.call("clearText()");
        } else if (step.startsWith("square ")) {
            String[] words = step.split(" ");
            square(script, where, Integer.parseInt(words[1]), words[2], words[3]);
        } else if (step.matches("[0-9]+x .*")) {
            int times = Integer.parseInt(step.substring(0, step.indexOf('x')));
            for (int i = 0; i < times; i++) {
                taken(script, where, step.substring(step.indexOf(' ') + 1));
            }
        } else if (step.contains(" = ")) {
            String[] sides = step.split(" = ");
            checks.due(where + ": " + sides[0], script.call(sides[0]), number(sides[1]));
        } else {
            taken(script, where, step);
        }
    }

    private void taken(Script script, String where, String call) {
        int answer = script.call(call);
        checks.due(where + ": " + call + " answered " + answer + ", an error,", answer >= 0);
    }

    private void square(Script script, String where, int size, String cost, String idle) {
        for (int i = 0; i < size; i++) {
            taken(script, where, "worker(" + idle + ")");
            taken(script, where, "task()");
        }
        for (int w = 0; w < size; w++) {
            for (int t = 0; t < size; t++) {
                taken(script, where, "cost(" + w + ", " + t + ", " + cost + ")");
            }
        }
    }

    private static int number(String word) {
        switch (word) {
            case "INVALID_ARGUMENT": return INVALID;
            case "NOT_POSSIBLE": return NOT_POSSIBLE;
            case "LIMIT_REACHED": return LIMIT;
            case "NOT_FOUND": return NOT_FOUND;
            default: return Integer.parseInt(word);
        }
    }
}
