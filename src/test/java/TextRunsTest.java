import java.util.Random;

/** Holds faults of very many short and long texts against the reference. */
final class TextRunsTest {
    private static final String SIGNS = "0123456789x,/;";

    public static void main(String[] args) {
        Checks checks = new Checks();
        everyShortText(checks);
        longTexts(checks);
        checks.finish("TextRunsTest");
    }

    private static void everyShortText(Checks checks) {
        String few = "07x,/;";
        for (int length = 0; length <= 6; length++) {
            int texts = (int) Math.pow(few.length(), length);
            for (int number = 0; number < texts; number++) {
                StringBuilder text = new StringBuilder();
                for (int i = 0, rest = number; i < length; i++, rest /= few.length()) {
                    text.append(few.charAt(rest % few.length()));
                }
                compare(checks, text.toString());
            }
        }
    }

    /** One more sign that may stand there is put again and again, so that most faults are far behind. */
    private static void longTexts(Checks checks) {
        for (int seed = 0; seed < 800; seed++) {
            Random random = new Random(seed);
            StringBuilder text = new StringBuilder();
            int tries = 10 + random.nextInt(300);
            for (int i = 0; i < tries && text.length() < 80; i++) {
                char sign = SIGNS.charAt(random.nextInt(3) == 0 ? random.nextInt(10) : 10 + random.nextInt(4));
                Reference reference = typed(text.toString() + sign);
                if (reference.fault(0) == -4 || reference.fault(0) > text.length() || random.nextInt(150) == 0) {
                    text.append(sign);
                }
            }
            compare(checks, text.toString());
        }
    }

    private static Reference typed(String text) {
        Reference reference = new Reference();
        for (int i = 0; i < text.length(); i++) {
            reference.type(text.charAt(i));
        }
        return reference;
    }

    private static void compare(Checks checks, String text) {
        Reference reference = typed(text);
        PricedPairs pairs = new PricedPairs();
        for (int i = 0; i < text.length(); i++) {
            pairs.type(text.charAt(i));
        }
        checks.due("fault(0) of \"" + text + "\"", pairs.fault(0), reference.fault(0));
        checks.due("fault(1) of \"" + text + "\"", pairs.fault(1), reference.fault(1));
        if (text.length() < 30) {
            checks.due("read() of \"" + text + "\"", pairs.read(), reference.read());
        } else {
            checks.due("read() of \"" + text + "\" is as its fault", pairs.read() < 0 == reference.fault(0) >= 0);
        }
    }

    private TextRunsTest() {
    }
}
