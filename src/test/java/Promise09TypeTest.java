/** Promise 9: type. */
public final class Promise09TypeTest {
    public static void main(String[] args) {
        KeptPlans x = new KeptPlans();
        char[] odd = {0, '\n', ' ', 255, 256, 55296, 65535};
        for (int i = 0; i < odd.length; i++) {
            Due.due("type(" + (int) odd[i] + ")", x.type(odd[i]), i + 1);
        }
        for (int i = odd.length; i < 80; i++) {
            Due.due("type", x.type('k'), i + 1);
        }
        Due.due("type", x.type('k'), -3);
        Due.due("type", x.type((char) 0), -3);
        Due.due("length", x.count(16), 80);
        Due.due("no act", x.count(15), 0);
        KeptPlans y = new KeptPlans();
        y.ask(0, 1);
        Due.write(y, "key 0 1");
        Due.due("undo()", y.undo(), 0);
        Due.due("the text stays", y.count(16), 7);
        Due.due("behind the text", y.type('0'), 8);
        Due.due("askAll()", y.askAll(), 87);
        y.clearText();
        Due.write(y, "key 0 1;key 0 1;key 0 1;key 0 1;key 0 1;key 0 1;key 0 1;key 0 1;key 0 1;key 0 10");
        Due.due("a full text", y.type('0'), -3);
        Due.due("nothing was typed", y.askAll() > 0 ? 1 : 0, 1);
        Due.end();
    }
}
