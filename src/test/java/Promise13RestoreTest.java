/** Promise 13: restore. */
public final class Promise13RestoreTest {
    public static void main(String[] args) {
        KeptPlans x = new KeptPlans();
        Due.due("restore()", x.restore(), -4);
        Due.due("states", x.count(15), 0);
        x.ask(0, 1);
        x.ask(0, 2);
        x.pin(0, true);
        x.set(1, 3);
        x.table(3, true, 3);
        x.keep();
        String kept = Due.told(x);
        x.make(5, 0, 1, 0, 0);
        x.pin(0, false);
        x.set(1, 7);
        x.table(3, true, 9);
        x.type('k');
        String before = Due.told(x);
        Due.due("restore()", x.restore(), 1);
        Due.same("after restore()", Due.told(x), kept);
        Due.due("the text stays", x.count(16), 1);
        Due.due("states", x.count(15), 4);
        Due.due("undo()", x.undo(), 3);
        Due.same("after undo()", Due.told(x), before);
        Due.due("restore()", x.restore(), 1);
        Due.due("the snapshot stays: restore()", x.restore(), 1);
        Due.same("after restore()", Due.told(x), kept);
        Due.due("undo()", x.undo(), 3);
        Due.same("after undo()", Due.told(x), kept);
        Due.due("undo()", x.undo(), 2);
        Due.same("after undo()", Due.told(x), before);
        Due.end();
    }
}
