/** Promise 11: undo, and the history. */
public final class Promise11UndoTest {
    public static void main(String[] args) {
        KeptPlans x = new KeptPlans();
        Due.due("undo()", x.undo(), -4);
        String[] told = new String[8];
        for (int i = 0; i < 7; i++) {
            told[i] = Due.told(x);
            x.ask(i, 3 + i);
            Due.due("states", x.count(15), Math.min(i + 1, 4));
        }
        x.ifAsked(0, 1, 0);
        x.keep();
        x.type('k');
        for (int i = 6; i >= 3; i--) {
            Due.due("undo()", x.undo(), i - 3);
            Due.same("after undo()", Due.told(x), told[i]);
        }
        String last = Due.told(x);
        Due.due("undo()", x.undo(), -4);
        Due.same("after NONE", Due.told(x), last);
        Due.due("the text stays", x.count(16), 1);
        Due.due("the snapshot stays", x.restore(), 6);
        Due.due("undo()", x.undo(), 0);
        mixed();
        allIsBroughtBack();
        Due.end();
    }

    private static void mixed() {
        KeptPlans x = new KeptPlans();
        String first = Due.told(x);
        x.ask(0, 1);
        String second = Due.told(x);
        x.ask(0, 9);
        x.undo();
        Due.same("after undo()", Due.told(x), second);
        x.set(3, 1);
        x.make(5, 1, 1, 1, 1);
        x.table(2, false, 7);
        Due.due("undo()", x.undo(), 3);
        Due.due("undo()", x.undo(), 2);
        Due.due("undo()", x.undo(), 1);
        Due.same("after undo()", Due.told(x), second);
        Due.due("undo()", x.undo(), 0);
        Due.same("after undo()", Due.told(x), first);
        Due.due("undo()", x.undo(), -4);
    }

    // A question can change all at once but for rows, keys and settings.
    private static void allIsBroughtBack() {
        KeptPlans x = new KeptPlans();
        x.make(0, 1, 1, 0, 999);
        String before = Due.told(x);
        x.ask(0, 100);
        Due.due("turned bad", x.count(8), 1);
        x.undo();
        Due.same("before a plan turned bad", Due.told(x), before);
        x.set(3, 1);
        before = Due.told(x);
        x.ask(3, 1);
        Due.due("thrown out for want of room", x.count(9), 1);
        x.undo();
        Due.same("before one was thrown out", Due.told(x), before);
        x.table(0, false, 120);
        before = Due.told(x);
        x.make(0, 0, 7, 5, 9);
        Due.due("the rows that it was made with", x.plan(0, 10), 120);
        x.undo();
        Due.same("before one was made in its place", Due.told(x), before);
    }
}
