/** Promise 10: clearText. */
public final class Promise10ClearTextTest {
    public static void main(String[] args) {
        KeptPlans x = new KeptPlans();
        Due.due("clearText()", x.clearText(), 0);
        x.ask(0, 1);
        Due.write(x, "key 0 1");
        Due.due("clearText()", x.clearText(), 7);
        Due.due("length", x.count(16), 0);
        Due.due("clearText()", x.clearText(), 0);
        Due.due("askAll()", x.askAll(), -100);
        Due.due("no act", x.count(15), 1);
        Due.due("type", x.type('k'), 1);
        Due.due("askAll()", x.askAll(), -101);
        for (int i = 1; i < 80; i++) {
            x.type('z');
        }
        Due.due("clearText()", x.clearText(), 80);
        Due.due("type", x.type('k'), 1);
        Due.end();
    }
}
