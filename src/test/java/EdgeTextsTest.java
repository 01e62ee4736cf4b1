import java.util.function.Supplier;

/** The edges of the Terms: TEXTS. */
public final class EdgeTextsTest {
    private static final String TEN = "key 0 1;key 0 1;key 0 1;key 0 1;key 0 1;key 0 1;key 0 1;key 0 1;key 0 1;key 0 1";

    public static void main(String[] args) {
        emptyAtFirst();
        atMost80Characters();
        oneOrMoreWithASignBetween();
        theWords();
        tablesInTexts();
        oneBlankAheadOfEachNumber();
        leastNumbers();
        noZeroAtTheBeginning();
        greatestNumbers();
        textsThatEndTooEarly();
        theFirstFaultIsTold();
        oddCharacters();
        Due.end();
    }

    private static int faultOf(String text) {
        KeptPlans x = new KeptPlans();
        int answer = Due.askAll(x, text);
        return answer <= -100 ? -100 - answer : -1;
    }

    private static void fault(String text, int at) {
        Due.refused(() -> typed(text), "askAll() of \"" + text + "\"", KeptPlans::askAll, -100 - at);
    }

    private static void taken(String text, int price) {
        Due.act(() -> typed(text), "askAll() of \"" + text + "\"", KeptPlans::askAll, price);
    }

    private static KeptPlans typed(String text) {
        KeptPlans x = new KeptPlans();
        x.keep();
        x.table(3, true, 11);
        Due.write(x, text);
        return x;
    }

    /** Which characters may stand behind the beginning: all others are the fault, at its length. */
    private static void allowed(String beginning, String signs) {
        for (int sign = 0; sign <= 300; sign++) {
            boolean isAllowed = signs.indexOf(sign) >= 0;
            int fault = faultOf(beginning + (char) sign);
            boolean isFault = fault == beginning.length();
            if (isAllowed == isFault) {
                Due.due("the fault of \"" + beginning + "\" and the character " + sign, fault, beginning.length());
            }
        }
    }

    // "There is a text of at most 80 characters, empty at first." "(the empty text does)"
    private static void emptyAtFirst() {
        Supplier<KeptPlans> begin = KeptPlans::new;
        Due.tells(begin, "the length at first", x -> x.count(16), 0);
        Due.refused(begin, "askAll() of the empty text", KeptPlans::askAll, -100);
        Due.noAct(begin, "clearText() of the empty text", KeptPlans::clearText, 0);
        allowed("", "kstr");
    }

    private static void atMost80Characters() {
        KeptPlans x = new KeptPlans();
        for (int i = 1; i <= 80; i++) {
            Due.due("type", x.type(' '), i);
            Due.due("length", x.count(16), i);
        }
        for (char sign : new char[] {' ', 'k', 0, 65535}) {
            Due.refused(Due::fullText, "type(" + (int) sign + ") at 80", y -> y.type(sign), Due.FULL);
        }
        taken(TEN, 60 + 9 * 10);
        taken(TEN + "0", 60 + 8 * 10 + 87);
        fault(TEN + ";", 80);
        fault(TEN + "k", 79);
        Due.noAct(Due::fullText, "clearText() of 80", KeptPlans::clearText, 80);
        x = Due.fullText();
        x.clearText();
        Due.due("type behind clearText()", x.type('k'), 1);
    }

    // "one or more with \";\" between two"
    private static void oneOrMoreWithASignBetween() {
        taken("key 0 1", 60);
        taken("key 0 1;key 0 1", 70);
        allowed("key 0 1;", "kstr");
        allowed("key 0 0;rows 1 7;", "kstr");
        fault(";", 0);
        fault(";key 0 1", 0);
        fault("key 0 1;", 8);
        fault("key 0 1;;key 0 1", 8);
        fault("key 0 1 ;key 0 1", 7);
        fault("key 0 1; key 0 1", 8);
        fault("key 0 1key 0 1", 7);
        fault("key 0 1,key 0 1", 7);
    }

    // "\"key\", \"span\" or \"top\" .. or \"rows\" or \"keys\""
    private static void theWords() {
        allowed("k", "e");
        allowed("ke", "y");
        allowed("key", " s");
        allowed("keys", " ");
        allowed("s", "p");
        allowed("sp", "a");
        allowed("spa", "n");
        allowed("span", " ");
        allowed("t", "o");
        allowed("to", "p");
        allowed("top", " ");
        allowed("r", "o");
        allowed("ro", "w");
        allowed("row", "s");
        allowed("rows", " ");
        taken("key 1 2", 63);
        taken("span 1 2", 117);
        taken("top 1 2", 59);
        taken("rows 1 2", 0);
        taken("keys 1 2", 0);
    }

    // "each with a table (0 to 3)"
    private static void tablesInTexts() {
        for (String word : new String[] {"key", "span", "top", "rows", "keys"}) {
            allowed(word + " ", "0123");
            for (int table = 0; table <= 3; table++) {
                allowed(word + " " + table, " ");
            }
            fault(word + " 4 1", word.length() + 1);
        }
        KeptPlans x = new KeptPlans();
        Due.askAll(x, "key 3 1;span 0 1;top 2 1;rows 3 7;keys 0 7");
        Due.due("key 3", x.plan(9, 3), 1);
        Due.due("span 0", x.plan(1, 3), 1);
        Due.due("top 2", x.plan(8, 3), 1);
        Due.due("rows 3", x.tableOf(3, 0), 7);
        Due.due("keys 0", x.tableOf(0, 1), 7);
    }

    // "there is one blank ahead of each number (the table, too)"
    private static void oneBlankAheadOfEachNumber() {
        fault("key0 1", 3);
        fault("key  0 1", 4);
        fault("key 01", 5);
        fault("key 0  1", 6);
        fault("key\t0 1", 3);
        fault(" key 0 1", 0);
        fault("key 0 1 ", 7);
    }

    // "a number behind it (0 to 9999; 1 to 9999 for \"span\" and \"top\")", "(0 to 9999; 1 to 9999 for \"keys\")"
    private static void leastNumbers() {
        allowed("key 0 ", "0123456789");
        allowed("rows 0 ", "0123456789");
        allowed("span 0 ", "123456789");
        allowed("top 0 ", "123456789");
        allowed("keys 0 ", "123456789");
        taken("key 0 0", 57);
        taken("rows 0 0", 0);
        taken("span 0 1", 87);
        taken("top 0 1", 58);
        taken("keys 0 1", 0);
        fault("span 0 0", 7);
        fault("top 0 0", 6);
        fault("keys 0 0", 7);
        fault("key 0 -1", 6);
    }

    // "Numbers do not begin with 0, unless they are the single digit 0"
    private static void noZeroAtTheBeginning() {
        allowed("key 0 0", ";");
        allowed("rows 3 0", ";");
        fault("key 0 00", 7);
        fault("key 0 05", 7);
        fault("rows 0 05", 8);
        fault("key 00 5", 5);
        fault("span 0 05", 7);
        taken("key 0 10", 87);
        taken("key 0 100", 150);
    }

    // "a digit by which a number would be greater than told is not allowed"
    private static void greatestNumbers() {
        for (String word : new String[] {"key", "span", "top", "rows", "keys"}) {
            for (String number : new String[] {"1", "9", "10", "99", "100", "999"}) {
                allowed(word + " 0 " + number, ";0123456789");
            }
            for (String number : new String[] {"1000", "1234", "9998", "9999"}) {
                allowed(word + " 0 " + number, ";");
            }
            fault(word + " 0 10000", word.length() + 7);
            fault(word + " 0 99999", word.length() + 7);
            fault(word + " 0 12345678901234567890", word.length() + 7);
        }
        taken("key 0 9999", 150);
        taken("span 0 9999", 150);
        taken("top 0 9999", 10056);
        KeptPlans x = new KeptPlans();
        Due.askAll(x, "rows 0 9999;keys 0 9999;rows 1 1000;keys 1 9998");
        Due.due("rows 0 9999", x.tableOf(0, 0), 9999);
        Due.due("keys 0 9999", x.tableOf(0, 1), 9999);
        Due.due("rows 1 1000", x.tableOf(1, 0), 1000);
        Due.due("keys 1 9998", x.tableOf(1, 1), 9998);
    }

    // "or the length of the text if it ends too early"
    private static void textsThatEndTooEarly() {
        String[] whole = {"key 0 0", "span 1 9", "top 2 9999", "rows 3 10", "keys 3 1"};
        for (String text : whole) {
            for (int length = 0; length < text.lastIndexOf(' ') + 1; length++) {
                fault(text.substring(0, length), length);
                fault("key 0 1;" + text.substring(0, length), 8 + length);
            }
            Due.due("the fault of \"" + text + "\"", faultOf(text), -1);
        }
        // "key" is the beginning of "keys", and "top 2 9" one of "top 2 9999".
        Due.due("the fault of \"key\"", faultOf("key"), 3);
        Due.due("the fault of \"top 2 9\"", faultOf("top 2 9"), -1);
    }

    // "the index, from 0, of the first character that is not allowed at its place"
    private static void theFirstFaultIsTold() {
        fault("x", 0);
        fault("kex 9 99999", 2);
        fault("key 9 99999", 4);
        fault("key 0 99999;x", 10);
        fault("key 0 1;kex;x", 10);
        fault("span 0 0;top 0 0", 7);
        fault("rows 0 1;keys 0 0", 16);
        KeptPlans x = new KeptPlans();
        Due.write(x, "rows 0 7;key 0 1;");
        Due.due("askAll()", x.askAll(), -117);
        Due.due("nothing ahead of the fault is done", x.tableOf(0, 0), 100);
        Due.due("nor asked", x.count(3), 0);
    }

    private static void oddCharacters() {
        for (char sign : new char[] {0, 9, 10, 127, 128, 160, 255, 256, 0x661, 0xff10, 65535}) {
            fault(sign + "key 0 1", 0);
            fault("key" + sign + "0 1", 3);
            fault("key " + sign + " 1", 4);
            fault("key 0 " + sign, 6);
            fault("key 0 1" + sign, 7);
            fault("key 0 1" + sign + "key 0 1", 7);
        }
        // These have the lower 8 bits of a character that is allowed.
        fault((char) (256 + 'k') + "ey 0 1", 0);
        fault("key" + (char) (256 + ' ') + "0 1", 3);
        fault("key " + (char) (256 + '0') + " 1", 4);
        fault("key 0 " + (char) (256 + '1'), 6);
        fault("key 0 1" + (char) (256 + '1'), 7);
        fault("key 0 1" + (char) (256 + ';') + "key 0 1", 7);
        fault("Key 0 1", 0);
        fault("kEy 0 1", 1);
        fault("SPAN 0 1", 0);
    }
}
