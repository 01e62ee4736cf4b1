/** Promise 5: pin. */
public final class Promise05PinTest {
    public static void main(String[] args) {
        KeptPlans x = new KeptPlans();
        x.ask(0, 1);
        x.ask(11, 1);
        Due.due("pin(0, true)", x.pin(0, true), 1);
        Due.due("plan(0, 7)", x.plan(0, 7), 1);
        Due.due("plan(11, 7)", x.plan(11, 7), 0);
        Due.due("pin(11, true)", x.pin(11, true), 2);
        Due.due("pin(0, false)", x.pin(0, false), 1);
        Due.due("states", x.count(15), 4);
        String before = Due.told(x);
        Due.due("pin(0, false)", x.pin(0, false), -4);
        Due.due("pin(11, true)", x.pin(11, true), -4);
        Due.due("pin(1, true)", x.pin(1, true), -1);
        Due.due("pin(1, false)", x.pin(1, false), -1);
        Due.due("pin(-1, true)", x.pin(-1, true), -1);
        Due.due("pin(12, false)", x.pin(12, false), -1);
        Due.same("after wrong calls", Due.told(x), before);
        Due.due("undo()", x.undo(), 3);
        Due.due("pinned again", x.count(1), 2);
        // A pin goes with its plan.
        x.throwOut(0);
        Due.due("pinned", x.count(1), 1);
        x.ask(0, 1);
        Due.due("a new plan", x.plan(0, 7), 0);
        Due.end();
    }
}
