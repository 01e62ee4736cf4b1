/** Promise 16: plan. */
public final class Promise16PlanTest {
    public static void main(String[] args) {
        KeptPlans x = new KeptPlans();
        x.ask(0, 1);
        x.ask(4, 3);
        plan(x, 4, 1, 1, 6, 3, 97, 0, 0, 0, 0, 0, 100);
        x.pin(4, true);
        x.ask(4, 2);
        x.ask(4, 2);
        x.ask(0, 1);
        plan(x, 4, 1, 1, 6, 3, 97, 3, 0, 1, 2, 1, 100);
        x.table(1, false, 151);
        x.table(1, true, 100);
        plan(x, 4, 1, 1, 6, 3, 97, 3, 1, 1, 2, 1, 100);
        x.table(1, false, 150);
        Due.due("not stale", x.plan(4, 6), 0);
        x.table(1, false, 50);
        Due.due("not stale", x.plan(4, 6), 0);
        x.table(1, false, 49);
        Due.due("stale", x.plan(4, 6), 1);
        x.table(1, false, 100);
        x.set(2, 3);
        Due.due("old, not stale", x.plan(4, 6), 0);
        x.set(2, 2);
        Due.due("too old", x.plan(4, 6), 1);
        x.table(2, false, 0);
        x.make(6, 0, 1, 0, 1);
        Due.due("no rows", x.plan(6, 6), 0);
        x.table(2, false, 1);
        Due.due("one row more than none", x.plan(6, 6), 1);
        Due.due("plan(6, 10)", x.plan(6, 10), 0);
        Due.due("plan(6, -1)", x.plan(6, -1), -2);
        Due.due("plan(6, 11)", x.plan(6, 11), -2);
        Due.due("plan(5, 0)", x.plan(5, 0), -1);
        Due.due("plan(5, 11)", x.plan(5, 11), -1);
        Due.due("plan(-1, 0)", x.plan(-1, 0), -1);
        Due.due("plan(12, -1)", x.plan(12, -1), -1);
        Due.end();
    }

    private static void plan(KeptPlans x, int shape, int... due) {
        for (int what = 0; what < due.length; what++) {
            Due.due("plan(" + shape + ", " + what + ")", x.plan(shape, what), due[what]);
        }
    }
}
