/** Promise 8: set. */
public final class Promise08SetTest {
    private static final int[] LEAST = {0, 1, 1, 1, 1};
    private static final int[] MOST = {999, 20, 999, 12, 20};
    private static final int[] FIRST = {50, 2, 20, 6, 4};

    public static void main(String[] args) {
        ranges();
        plansAreThrownOut();
        KeptPlans x = new KeptPlans();
        Due.due("set(-1, 1)", x.set(-1, 1), -1);
        Due.due("set(5, 1)", x.set(5, 1), -1);
        Due.due("set(5, -1)", x.set(5, -1), -1);
        Due.due("states", x.count(15), 0);
        Due.end();
    }

    private static void ranges() {
        for (int which = 0; which < 5; which++) {
            KeptPlans x = new KeptPlans();
            Due.due("set: below " + which, x.set(which, LEAST[which] - 1), -2);
            Due.due("set: above " + which, x.set(which, MOST[which] + 1), -2);
            Due.due("set: the same " + which, x.set(which, FIRST[which]), -4);
            Due.due("states", x.count(15), 0);
            Due.due("set: the least " + which, x.set(which, LEAST[which]), FIRST[which]);
            Due.due("set: the most " + which, x.set(which, MOST[which]), LEAST[which]);
            for (int other = 0; other < 5; other++) {
                int due = other == which ? MOST[which] : FIRST[other];
                Due.due("count(" + (10 + other) + ")", x.count(10 + other), due);
            }
            Due.due("undo()", x.undo(), 1);
            Due.due("count(" + (10 + which) + ")", x.count(10 + which), LEAST[which]);
        }
    }

    private static void plansAreThrownOut() {
        KeptPlans x = new KeptPlans();
        for (int shape = 5; shape >= 0; shape--) {
            x.ask(shape, 1);
        }
        x.ask(5, 1);
        x.pin(4, true);
        String before = Due.told(x);
        Due.due("set(3, 3)", x.set(3, 3), 6);
        int[] kept = {1, -1, -1, -1, 1, 1};
        for (int shape = 0; shape < 6; shape++) {
            Due.due("plan(" + shape + ", 0)", x.plan(shape, 0), kept[shape]);
        }
        Due.due("for want of room", x.count(9), 3);
        x.undo();
        Due.same("after undo()", Due.told(x), before);
        x.pin(5, true);
        Due.due("set(3, 1)", x.set(3, 1), 6);
        Due.due("pinned ones stay", x.count(0), 2);
        Due.due("for want of room", x.count(9), 4);
        Due.due("set(3, 2)", x.set(3, 2), 1);
        Due.due("kept", x.count(0), 2);
        KeptPlans y = new KeptPlans();
        for (int shape = 0; shape < 6; shape++) {
            y.ask(shape, 1);
        }
        y.set(2, 1);
        y.set(0, 1);
        y.set(1, 1);
        y.set(4, 1);
        Due.due("other settings throw nothing out", y.count(0), 6);
        Due.due("stale now", y.count(2), 4);
    }
}
