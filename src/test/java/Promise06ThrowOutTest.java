/** Promise 6: throwOut. */
public final class Promise06ThrowOutTest {
    public static void main(String[] args) {
        KeptPlans x = new KeptPlans();
        x.ask(0, 1);
        x.ask(11, 1);
        x.pin(11, true);
        int states = x.count(15);
        Due.due("throwOut(1)", x.throwOut(1), -1);
        Due.due("throwOut(-1)", x.throwOut(-1), -1);
        Due.due("throwOut(12)", x.throwOut(12), -1);
        Due.due("states", x.count(15), states);
        Due.due("throwOut(11)", x.throwOut(11), 1);
        Due.due("states", x.count(15), 4);
        Due.due("plan(11, 0)", x.plan(11, 0), -1);
        Due.due("plan(0, 0)", x.plan(0, 0), 1);
        Due.due("throwOut(0)", x.throwOut(0), 0);
        Due.due("throwOut(0)", x.throwOut(0), -1);
        Due.due("turned bad", x.count(8), 0);
        Due.due("for want of room", x.count(9), 0);
        x.undo();
        Due.due("plan(0, 0)", x.plan(0, 0), 1);
        x.undo();
        Due.due("plan(11, 7)", x.plan(11, 7), 1);
        Due.end();
    }
}
