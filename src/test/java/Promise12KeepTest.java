/** Promise 12: keep. */
public final class Promise12KeepTest {
    public static void main(String[] args) {
        KeptPlans x = new KeptPlans();
        Due.due("keep()", x.keep(), 0);
        Due.due("no act", x.count(15), 0);
        String first = Due.told(x);
        x.ask(0, 1);
        x.ask(1, 1);
        x.ask(1, 1);
        Due.due("restore()", x.restore(), 0);
        Due.same("after restore()", Due.told(x), first);
        x.undo();
        String second = Due.told(x);
        Due.due("keep()", x.keep(), 2);
        Due.due("states", x.count(15), 3);
        x.ask(2, 1);
        x.pin(2, true);
        Due.same("the snapshot is the later one", x.restore() == 2 ? Due.told(x) : "", second);
        // What is done behind keep() leaves the snapshot as it was.
        x.ask(0, 1);
        x.throwOut(0);
        x.restore();
        Due.same("after restore()", Due.told(x), second);
        Due.end();
    }
}
