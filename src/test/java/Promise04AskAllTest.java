/** Promise 4: askAll, and the texts. */
public final class Promise04AskAllTest {
    public static void main(String[] args) {
        questions();
        faults();
        Due.end();
    }

    private static void questions() {
        KeptPlans x = new KeptPlans();
        Due.due("key 0 5", Due.askAll(x, "key 0 5"), 72);
        Due.due("the text stays", x.count(16), 7);
        Due.due("again", x.askAll(), 22);
        Due.due("one act a text", x.count(15), 2);
        Due.due("span and top", Due.askAll(x, "span 1 2;top 3 9"), 117 + 66);
        Due.due("plan of the span", x.plan(4, 3), 2);
        Due.due("plan of the greatest ones", x.plan(11, 3), 9);
        Due.due("one act a text", x.count(15), 3);
        x.undo();
        Due.due("all of it is undone", x.count(3), 2);
        Due.due("the text is not", x.count(16), 16);
        String settings = "rows 2 0;keys 2 1;rows 1 9999;keys 3 9999";
        Due.due("settings alone", Due.askAll(x, settings), 0);
        Due.due("rows", x.tableOf(2, 0), 0);
        Due.due("keys", x.tableOf(2, 1), 1);
        Due.due("rows", x.tableOf(1, 0), 9999);
        Due.due("keys", x.tableOf(3, 1), 9999);
        Due.due("settings as they are", x.askAll(), 0);
        Due.due("an act all the same", x.count(15), 4);
        KeptPlans y = new KeptPlans();
        Due.due("one after the other", Due.askAll(y, "key 0 40;rows 0 30;key 0 40;keys 0 1;span 0 1"), 150 + 80 + 80);
        Due.due("ten questions", Due.askAll(new KeptPlans(),
            "key 0 1;key 0 1;key 0 1;key 0 1;key 0 1;key 0 1;key 0 1;key 0 1;key 0 1;key 0 1"), 50 + 10 * 10);
        Due.due("80 characters", Due.askAll(new KeptPlans(),
            "key 0 10;key 0 1;key 0 1;key 0 1;key 0 1;key 0 1;key 0 1;key 0 1;key 0 1;key 0 1"), 87 + 60 + 80);
    }

    private static void faults() {
        fault("", 0);
        fault(" ", 0);
        fault(";", 0);
        fault("Key 0 1", 0);
        fault("x", 0);
        fault("k", 1);
        fault("kx", 1);
        fault("k 0 1", 1);
        fault("ke 0 1", 2);
        fault("spa 0 1", 3);
        fault("t 0 1", 1);
        fault("key", 3);
        fault("keyx", 3);
        fault("key ", 4);
        fault("key  0", 4);
        fault("key 4", 4);
        fault("key 4 1", 4);
        fault("key -1", 4);
        fault("key 0", 5);
        fault("key 01 1", 5);
        fault("key 12 1", 5);
        fault("key 0;", 5);
        fault("key 0 ", 6);
        fault("key 0 ;", 6);
        fault("key 0 x", 6);
        fault("key 0 00", 7);
        fault("key 0 01", 7);
        fault("key 0 1 ", 7);
        fault("key 0 1x", 7);
        fault("key 0 10000", 10);
        fault("key 0 99999", 10);
        fault("key 0 9999 ", 10);
        fault("key 0 1;", 8);
        fault("key 0 1; key 0 1", 8);
        fault("key 0 1;;", 8);
        fault("key 0 1;key 0 1;spam 0 1", 19);
        fault("keys", 4);
        fault("keyss", 4);
        fault("keys 0 0", 7);
        fault("keys 3 10000", 11);
        fault("s", 1);
        fault("so", 1);
        fault("span 0 0", 7);
        fault("span 3 ", 7);
        fault("to", 2);
        fault("tops 0 1", 3);
        fault("top 0 0", 6);
        fault("top 0 10000", 10);
        fault("row 0 1", 3);
        fault("rows 0 05", 8);
        fault("rows 0 10000", 11);
        fault("rows 9", 5);
        fault("key 0 1;key 0 1;key 0 1;key 0 1;key 0 1;key 0 1;key 0 1;key 0 1;key 0 1;key 0 1;", 80);
        fault("key 0 1;key 0 1;key 0 1;key 0 1;key 0 1;key 0 1;key 0 1;key 0 1;key 0 1;key 0 1k", 79);
        fault("key 0 " + (char) 0, 6);
        fault("key 0 1" + (char) 0, 7);
        fault("key 0 1" + (char) ('0' + 256), 7);
        fault((char) ('k' + 256) + "ey 0 1", 0);
        fault((char) 65535 + "", 0);
        fault("key 0 " + (char) 0x661, 6);
    }

    private static void fault(String text, int at) {
        KeptPlans x = new KeptPlans();
        x.ask(0, 1);
        String before = Due.told(x);
        Due.due("\"" + text + "\"", Due.askAll(x, text), -100 - at);
        Due.same("after \"" + text + "\"", Due.told(x), before);
        Due.due("states after \"" + text + "\"", x.count(15), 1);
        Due.due("length of \"" + text + "\"", x.count(16), text.length());
    }
}
