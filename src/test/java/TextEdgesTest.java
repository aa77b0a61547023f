/** The sentences of "Texts", and of promises 23 to 26, each with runs of its own. */
final class TextEdgesTest {
    private static final int NO_FAULT = -4;

    /** Five rows, with 16 characters of which the last ones are to be put behind it. */
    private static final String FOUR_ROWS = "0,0,0,0,0,0,0/5;1,0,0,0,0,0,0/5;2,0,0,0,0,0,0/5;3,0,0,0,0,0,0/5;";
    private static final String OF_79 = FOUR_ROWS + "4,0,0,0,0,0,9/5";
    private static final String OF_80 = FOUR_ROWS + "40,0,0,0,0,0,9/5";
    private static final String SEVEN_ROWS = "1/2;3/4;5/6;7/8;9/10;11/12;13/14";

    private static final Checks CHECKS = new Checks();
    private static final Runs RUNS = new Runs(CHECKS);

    public static void main(String[] args) {
        CHECKS.due("the test's own text of 79", OF_79.length(), 79);
        CHECKS.due("the test's own text of 80", OF_80.length(), 80);
        characters();
        lengths();
        clearText();
        endsTooEarly();
        whatMayStandWhere();
        numbers();
        entriesOfTheFirstRow();
        entriesOfOtherRows();
        rows();
        firstFromTheLeft();
        firstAndLastPlace();
        faultAnswers();
        readAnswers();
        readReplaces();
        CHECKS.finish("TextEdgesTest");
    }

    private static void due(String sentence, String... steps) {
        RUNS.due(sentence, steps);
    }

    private static void fault(String sentence, String text, int place, int reason) {
        Script script = new Script();
        script.type(text);
        String where = sentence + ": \"" + text + "\": ";
        CHECKS.due(where + "fault(0)", script.call("fault(0)"), place);
        CHECKS.due(where + "fault(1)", script.call("fault(1)"), reason);
        CHECKS.due(where + "read()", script.call("read()"), -2);
        CHECKS.due(where + "count(7)", script.call("count(7)"), 0);
        CHECKS.due(where + "count(8)", script.call("count(8)"), text.length());
    }

    private static void noFault(String sentence, String text) {
        Script script = new Script();
        script.type(text);
        String where = sentence + ": \"" + text + "\": ";
        CHECKS.due(where + "fault(0)", script.call("fault(0)"), NO_FAULT);
        CHECKS.due(where + "fault(1)", script.call("fault(1)"), NO_FAULT);
        CHECKS.due(where + "read() is no error", script.call("read()") >= 0);
        CHECKS.due(where + "count(8)", script.call("count(8)"), text.length());
    }

    private static void characters() {
        due("23: the least character", "type(32) = 1", "count(8) = 1");
        due("23: the greatest character", "type(126) = 1", "count(8) = 1");
        due("23: below the least", "type(31) = INVALID_ARGUMENT", "count(8) = 0");
        due("23: above the greatest", "type(127) = INVALID_ARGUMENT", "count(8) = 0");
        due("23: 49, and 65536 more or less", "type(65585) = INVALID_ARGUMENT", "type(-65487) = INVALID_ARGUMENT", "count(8) = 0");
        due("23: 49, and 256 more", "type(305) = INVALID_ARGUMENT", "count(8) = 0");
        for (int character = 32; character <= 126; character++) {
            due("23: each character", "type(" + character + ") = 1", "type(" + character + ") = 2", "count(8) = 2");
        }
    }

    private static void lengths() {
        due("23: a text of 0", "count(8) = 0");
        due("23: a text of 79", "79x type(49)", "count(8) = 79", "fault(0) = 4");
        due("23: the 80th character", "79x type(49)", "type(49) = 80", "count(8) = 80");
        due("23: an 81st character", "80x type(49)", "type(49) = LIMIT_REACHED", "type(32) = LIMIT_REACHED", "type(126) = LIMIT_REACHED",
            "count(8) = 80");
        due("23: it has 80 characters, and the character is out of range", "80x type(49)", "type(31) = INVALID_ARGUMENT",
            "type(127) = INVALID_ARGUMENT", "type(-2147483648) = INVALID_ARGUMENT", "type(2147483647) = INVALID_ARGUMENT");
        due("23: the characters in their order", "type 12/34", "read() = 12", "costOf(0, 0) = 12", "costOf(0, -1) = 34");
        noFault("a text of 79", OF_79);
        noFault("a text of 80", OF_80);
        due("a text of 80 is read to its end", "type " + OF_80, "read() = 0", "count(0) = 5", "costOf(4, 0) = 40", "costOf(4, 6) = 9",
            "costOf(4, -1) = 5");
        due("a text of 80 and no more", "type " + OF_80, "type(49) = LIMIT_REACHED", "read() = 0", "costOf(4, -1) = 5");
        due("a text of 79 and one more", "type " + OF_79, "type(49) = 80", "read() = 0", "costOf(4, -1) = 51");
    }

    private static void clearText() {
        due("24: of an empty text", "clearText() = 0", "clearText() = 0");
        due("24: of 1", "type 7", "clearText() = 1", "count(8) = 0", "fault(0) = 0", "fault(1) = 1");
        due("24: of 79", "79x type(49)", "clearText() = 79", "count(8) = 0");
        due("24: of 80", "80x type(49)", "clearText() = 80", "count(8) = 0", "type(49) = 1");
        due("24: what was typed is gone", "type 1,2/3", "clearText() = 5", "type 7", "fault(0) = 1", "type /8", "fault(0) = NOT_FOUND",
            "read() = 7", "count(1) = 1");
        due("24: the table stays", "table 3/5", "clearText() = 0", "total() = 3", "count(0) = 1");
    }

    private static void endsTooEarly() {
        fault("it ends too early, as the empty text does", "", 0, 1);
        fault("it ends too early: an entry", "x", 1, 1);
        fault("it ends too early: a number", "1", 1, 1);
        fault("it ends too early: a number of four digits", "1234", 4, 1);
        fault("it ends too early: behind a comma", "1,", 2, 1);
        fault("it ends too early: behind a slash", "1/", 2, 1);
        fault("it ends too early: behind a semicolon", "1/2;", 4, 1);
        fault("it ends too early: fewer entries", "1,2/3;4", 7, 1);
        fault("it ends too early: a row without its slash", "1,2/3;4,5", 9, 1);
        fault("it ends too early: a row without its idle cost", "1,2/3;4,5/", 10, 1);
        fault("it ends too early: the seventh entry", "1,2,3,4,5,6,7", 13, 1);
        fault("it ends too early: the seventh row", "1/2;1/2;1/2;1/2;1/2;1/2;", 24, 1);
    }

    private static void may(String beginning, String characters, String finish) {
        may(beginning, characters, "", finish);
    }

    /**
     * Behind the beginning just these characters may stand; of the others from 32 to 126 each is a fault at its place,
     * of reason 2 if it is one of the tooMany, otherwise of reason 1.
     */
    private static void may(String beginning, String characters, String tooMany, String finish) {
        noFault("the beginning, brought to an end", beginning + finish);
        for (char c = 32; c <= 126; c++) {
            Script script = new Script();
            script.type(beginning + c);
            String where = "\"" + c + "\" behind \"" + beginning + "\": ";
            int place = script.call("fault(0)");
            if (characters.indexOf(c) >= 0) {
                CHECKS.due(where + "may stand there", place == NO_FAULT || place == beginning.length() + 1);
            } else {
                CHECKS.due(where + "fault(0)", place, beginning.length());
                CHECKS.due(where + "fault(1)", script.call("fault(1)"), tooMany.indexOf(c) >= 0 ? 2 : 1);
            }
        }
    }

    private static void whatMayStandWhere() {
        String digits = "0123456789";
        may("", digits + "x", "1/2");
        may("x", ",/", "/2");
        may("0", ",/", "/2");
        may("1", digits + ",/", "/2");
        may("123", digits + ",/", "/2");
        may("1234", ",/", "/2");
        may("1,", digits + "x", "1/2");
        may("1,x", ",/", "/2");
        may("1,0", ",/", "/2");
        may("1,10", digits + ",/", "/2");
        may("1,2,3,4,5,6,x", "/", ",", "/2");
        may("1,2,3,4,5,6,7", digits + "/", ",", "/2");
        may("1/", digits, "2");
        may("1/0", ";", "");
        may("1/2", digits + ";", "");
        may("1/203", digits + ";", "");
        may("1/2034", ";", "");
        may("1/2;", digits + "x", "1/2");
        may("1/2;x", "/", ",", "/2");
        may("1,2/3;", digits + "x", "1,2/3");
        may("1,2/3;4", digits + ",", "/", ",2/3");
        may("1,2/3;4,", digits + "x", "2/3");
        may("1,2/3;4,5", digits + "/", ",", "/3");
        may("1,2/3;4,5/6;", digits + "x", "x,x/3");
        may(SEVEN_ROWS, digits, ";", "");
    }

    private static void numbers() {
        noFault("one to four digits: one", "0/0");
        noFault("one to four digits: four", "9999/9999");
        noFault("one to four digits: zeros within", "1000,100,10/2000");
        fault("one to four digits: five", "12345/1", 4, 1);
        fault("one to four digits: five, the least of them", "10000/1", 4, 1);
        fault("one to four digits: five of an idle cost", "1/10000", 6, 1);
        fault("one to four digits: five of a later entry", "1,10000/1", 6, 1);
        fault("one to four digits: none", ",1/2", 0, 1);
        fault("one to four digits: none within", "1,,2/3", 2, 1);
        fault("one to four digits: none of an idle cost", "1/;2/3", 2, 1);
        fault("without 0 ahead of others", "05/1", 1, 1);
        fault("without 0 ahead of others: 0", "00/1", 1, 1);
        fault("without 0 ahead of others: of an idle cost", "1/05", 3, 1);
        fault("without 0 ahead of others: of a later entry", "1,05/1", 3, 1);
        fault("without 0 ahead of others: of a later row", "1/2;05/1", 5, 1);
        fault("a sign is no digit", "-1/2", 0, 1);
        fault("a sign is no digit: plus", "+1/2", 0, 1);
        fault("an idle cost is not barred", "1/x", 2, 1);
        fault("barred is one x", "xx/1", 1, 1);
        fault("barred is a small x", "X/1", 0, 1);
        fault("barred is no digit's neighbour", "x1/1", 1, 1);
        fault("barred is no digit's neighbour, behind", "1x/1", 1, 1);
    }

    private static void entriesOfTheFirstRow() {
        noFault("the first row's seventh entry", "1,2,3,4,5,6,7/8");
        fault("the first row's eighth entry", "1,2,3,4,5,6,7,8/9", 13, 2);
        fault("the first row's eighth entry, by the comma alone", "1,2,3,4,5,6,7,", 13, 2);
        fault("the first row's eighth entry, whatever it were", "1,2,3,4,5,6,7,a", 13, 2);
        fault("the first row's eighth entry, barred ones", "x,x,x,x,x,x,x,x/9", 13, 2);
        fault("the first row's eighth entry, long ones", "1000,2,3,4,5,6,7777,8/9", 19, 2);
        fault("a row has an entry", "/5", 0, 1);
    }

    private static void entriesOfOtherRows() {
        noFault("as many entries: one", "1/2;x/3");
        noFault("as many entries: 7", "1,2,3,4,5,6,7/8;x,x,x,x,x,x,x/9");
        fault("more entries", "1/2;3,4/5", 5, 2);
        fault("more entries, by the comma alone", "1/2;3,", 5, 2);
        fault("more entries, by the comma, whatever follows", "1/2;3,,", 5, 2);
        fault("more entries, in the third row", "1,2/3;4,5/6;7,8,9/1", 15, 2);
        fault("more entries than 7", "1,2,3,4,5,6,7/8;x,x,x,x,x,x,x,", 29, 2);
        fault("fewer entries", "1,2/3;4/5", 7, 2);
        fault("fewer entries, by the slash alone", "1,2/3;4/", 7, 2);
        fault("fewer entries, whatever follows", "1,2/3;4/a", 7, 2);
        fault("fewer entries, one less than 7", "1,2,3,4,5,6,7/8;x,x,x,x,x,x/9", 27, 2);
        fault("fewer entries, one alone of 7", "1,2,3,4,5,6,7/8;x/9", 17, 2);
        fault("fewer entries, in the third row", "1,2/3;4,5/6;7/8", 13, 2);
        fault("fewer entries than the first row, not than the second", "1/2;3/4;5,6/7", 9, 2);
        fault("a slash where an entry is due", "1,2/3;4,/5", 8, 1);
        fault("a slash where the first entry is due", "1/2;/3", 4, 1);
    }

    private static void rows() {
        noFault("the seventh row", SEVEN_ROWS);
        fault("an eighth row", SEVEN_ROWS + ";1/2", 32, 2);
        fault("an eighth row, by the semicolon alone", SEVEN_ROWS + ";", 32, 2);
        fault("an eighth row, whatever follows", SEVEN_ROWS + ";;", 32, 2);
        fault("a row is not empty", "1/2;;3/4", 4, 1);
        fault("a row is not empty: the first", ";1/2", 0, 1);
        fault("a row without an idle cost", "1;2/3", 1, 1);
        fault("a second idle cost", "1/2/3", 3, 1);
        fault("an entry behind the idle cost", "1/2,3", 3, 1);
    }

    private static void firstFromTheLeft() {
        fault("reason 1, and then reason 2", "a,2,3,4,5,6,7,8/9", 0, 1);
        fault("reason 1, and then reason 2, in a later row", "1/2;a,3/4", 4, 1);
        fault("reason 1 just before reason 2", "1/2;3a,4/5", 5, 1);
        fault("reason 2, and then reason 1", "1,2,3,4,5,6,7,8a/9", 13, 2);
        fault("reason 2, and then reason 1, in a later row", "1,2/3;4/a", 7, 2);
        fault("reason 2, and then an early end", "1/2;3,", 5, 2);
        fault("reason 2 twice", "1/2;3,4/5;6,7/8", 5, 2);
        fault("reason 2 thrice", "1,2/3;4/5;1,2,3/4", 7, 2);
        fault("reason 1 twice", "1a/b", 1, 1);
        fault("fewer entries, and then an eighth row", "1,2/3;4/5;1,2/3;1,2/3;1,2/3;1,2/3;1,2/3;1,2/3", 7, 2);
    }

    private static void firstAndLastPlace() {
        fault("at the first character", "a1/2", 0, 1);
        fault("at the first character of one", " ", 0, 1);
        fault("at the last character", "1/2a", 3, 1);
        fault("behind the last character", "1/2;1/", 6, 1);
        fault("at the first of 80", "a" + OF_79, 0, 1);
        fault("at the last of 79", OF_79.substring(0, 78) + "a", 78, 1);
        fault("at the last of 80", OF_79 + "a", 79, 1);
        fault("at the last of 80, reason 2", FOUR_ROWS.substring(0, 48) + "3,0,0,0,0,0,0/5555;40,0,0,0,0,0/", 79, 2);
        fault("behind the last of 79", OF_79.substring(0, 64) + "1000,20,3,4,50,", 79, 1);
        fault("behind the last of 80", OF_79 + ";", 80, 1);
        fault("behind the last of 80, an entry", FOUR_ROWS + "1000,20,30,4,50,", 80, 1);
    }

    private static void faultAnswers() {
        due("25: the place and the reason", "type 1,2/3;4/5", "fault(0) = 7", "fault(1) = 2", "fault(0) = 7");
        due("25: no fault", "type 1/2", "fault(0) = NOT_FOUND", "fault(1) = NOT_FOUND");
        due("25: neither 0 nor 1", "type 1/", "fault(2) = INVALID_ARGUMENT", "fault(-1) = INVALID_ARGUMENT");
        due("25: neither 0 nor 1, and no fault", "type 1/2", "fault(2) = INVALID_ARGUMENT", "fault(-1) = INVALID_ARGUMENT",
            "fault(2147483647) = INVALID_ARGUMENT", "fault(-2147483648) = INVALID_ARGUMENT");
        due("25: of the text, not of the table", "table 3,8/20;4,x/15", "fault(0) = 0", "total() = 12", "type x/1", "fault(0) = NOT_FOUND",
            "total() = 12", "count(0) = 2");
        due("25: as the text grows", "fault(0) = 0", "type 1", "fault(0) = 1", "type /", "fault(0) = 2", "type 2", "fault(0) = NOT_FOUND",
            "type ;", "fault(0) = 4", "type 3,", "fault(0) = 5", "fault(1) = 2", "type 4/5", "fault(0) = 5");
    }

    private static void readAnswers() {
        due("26: the least total then", "type 3,8/20;4,x/15", "read() = 12", "total() = 12");
        due("26: the least total then, 0", "type 0/0", "read() = 0");
        due("26: the least total then, the greatest", "type x/9999;x/9999;x/9999;x/9999;x/9999;x/9999;x/9999", "read() = 69993");
        due("26: the text has a fault", "type 1/2;", "read() = NOT_POSSIBLE", "count(0) = 0", "count(7) = 0", "count(8) = 4");
        due("26: the empty text has a fault", "read() = NOT_POSSIBLE", "count(7) = 0");
        due("26: the text has a fault of reason 2", "table 3/5", "type 1/2;3,4/5", "read() = NOT_POSSIBLE", "total() = 3", "count(0) = 1",
            "count(1) = 1", "costOf(0, 0) = 3", "count(7) = 1");
        due("26: the text has a fault in its last row", "table 3/5", "type 1/2;3/4;5/6;7/8;9/1;2/3;4/5;", "read() = NOT_POSSIBLE",
            "count(0) = 1", "costOf(0, 0) = 3", "costOf(0, -1) = 5");
        due("26: the text stays", "type 1/2", "read() = 1", "count(8) = 3", "type 3", "count(8) = 4", "read() = 1", "costOf(0, -1) = 23");
    }

    private static void readReplaces() {
        due("26: one row for each worker, one entry for each task", "type 0,1,22,333,4444,9999,x/5;x,x,x,x,x,x,7/0", "read() = 0",
            "count(0) = 2", "count(1) = 7", "costOf(0, 0) = 0", "costOf(0, 1) = 1", "costOf(0, 2) = 22", "costOf(0, 3) = 333",
            "costOf(0, 4) = 4444", "costOf(0, 5) = 9999", "costOf(0, 6) = NOT_FOUND", "costOf(0, -1) = 5", "costOf(1, 0) = NOT_FOUND",
            "costOf(1, 5) = NOT_FOUND", "costOf(1, 6) = 7", "costOf(1, -1) = 0", "count(2) = 7");
        due("26: 7 rows", "type " + SEVEN_ROWS, "read() = 55", "count(0) = 7", "count(1) = 1", "costOf(6, 0) = 13", "costOf(6, -1) = 14",
            "costOf(3, 0) = 7", "costOf(3, -1) = 8");
        due("26: a table larger than the text", "square 7 20 30", "type 1/2", "read() = 1", "count(0) = 1", "count(1) = 1", "count(2) = 1",
            "costOf(1, 0) = INVALID_ARGUMENT", "costOf(0, 1) = INVALID_ARGUMENT", "proof() = 1");
        due("26: a table smaller than the text", "worker(9)", "type 1,2/3;4,5/6", "read() = 6", "count(0) = 2", "count(1) = 2",
            "costOf(1, 1) = 5");
        due("26: nothing is left of the table", "table 1,2/3;4,5/6", "table 7/8", "worker(9) = 1", "task() = 1", "count(2) = 1",
            "costOf(1, 0) = NOT_FOUND", "costOf(0, 1) = NOT_FOUND", "costOf(1, 1) = NOT_FOUND", "costOf(1, -1) = 9");
        due("26: what comes then does not alter the text", "type 1/2", "read() = 1", "cost(0, 0, 0)", "idle(0, 0)", "read() = 1",
            "costOf(0, 0) = 1", "costOf(0, -1) = 2");
    }

    private TextEdgesTest() {
    }
}
