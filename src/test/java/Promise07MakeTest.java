/** Promise 7: make. */
public final class Promise07MakeTest {
    public static void main(String[] args) {
        plansByHand();
        wantOfRoom();
        wrongOnes();
        Due.end();
    }

    private static void plansByHand() {
        KeptPlans x = new KeptPlans();
        x.ask(3, 1);
        x.ask(3, 1);
        Due.due("make(3, 2, 5, 0, 99999)", x.make(3, 2, 5, 0, 99999), 1);
        int[] due = {2, 0, 99999, 5, 200, 0, 0, 0, 0, 0, 100};
        for (int what = 0; what < due.length; what++) {
            Due.due("plan(3, " + what + ")", x.plan(3, what), due[what]);
        }
        Due.due("questions", x.count(3), 2);
        Due.due("looking", x.count(7), 50);
        Due.due("states", x.count(15), 3);
        Due.due("make(2, 0, 9, 9999, 9999)", x.make(2, 0, 9, 9999, 9999), 2);
        Due.due("guess", x.plan(2, 4), 136);
        x.pin(2, true);
        x.table(0, false, 40);
        x.ask(6, 1);
        Due.due("age", x.plan(2, 5), 1);
        Due.due("make(2, 1, 9, 9, 9)", x.make(2, 1, 9, 9, 9), 3);
        Due.due("age", x.plan(2, 5), 0);
        Due.due("guess", x.plan(2, 4), 15);
        Due.due("rows", x.plan(2, 10), 40);
        Due.due("not pinned", x.plan(2, 7), 0);
        Due.due("ask(2, 9)", x.ask(2, 9), 15);
        Due.due("the age of a plan by hand", x.plan(2, 5), 1);
        x.undo();
        x.undo();
        Due.due("undone", x.plan(2, 0), 0);
        Due.due("undone", x.plan(2, 7), 1);
    }

    private static void wantOfRoom() {
        KeptPlans x = Due.withSetting(3, 2);
        x.ask(6, 1);
        x.ask(0, 1);
        Due.due("make(1, 0, 1, 0, 1)", x.make(1, 0, 1, 0, 1), 2);
        Due.due("the oldest is out", x.plan(6, 0), -1);
        Due.due("for want of room", x.count(9), 1);
        x.pin(0, true);
        x.pin(1, true);
        String before = Due.told(x);
        int states = x.count(15);
        Due.due("all are pinned", x.make(2, 0, 1, 0, 1), -4);
        Due.same("after NONE", Due.told(x), before);
        Due.due("states", x.count(15), states);
        Due.due("wrong, and all are pinned", x.make(2, 3, 1, 0, 1), -2);
        Due.due("in place of a pinned one", x.make(1, 1, 1, 0, 1), 2);
        KeptPlans y = new KeptPlans();
        for (int shape = 0; shape < 4; shape++) {
            y.make(shape, 0, 1, 0, 1);
            y.pin(shape, true);
        }
        y.set(3, 2);
        y.pin(3, false);
        before = Due.told(y);
        Due.due("too many are pinned", y.make(4, 0, 1, 0, 1), -4);
        Due.same("after NONE nothing is thrown out", Due.told(y), before);
        Due.due("in place of one", y.make(3, 0, 1, 0, 1), 4);
    }

    private static void wrongOnes() {
        KeptPlans x = new KeptPlans();
        String before = Due.told(x);
        Due.due("make(-1, 0, 1, 0, 1)", x.make(-1, 0, 1, 0, 1), -1);
        Due.due("make(12, 3, 1, 0, 1)", x.make(12, 3, 1, 0, 1), -1);
        Due.due("make(0, -1, 1, 0, 1)", x.make(0, -1, 1, 0, 1), -2);
        Due.due("make(0, 3, 1, 0, 1)", x.make(0, 3, 1, 0, 1), -2);
        Due.due("make(0, 0, -1, 0, 1)", x.make(0, 0, -1, 0, 1), -2);
        Due.due("make(0, 0, 10000, 0, 1)", x.make(0, 0, 10000, 0, 1), -2);
        Due.due("make(1, 0, 0, 0, 1)", x.make(1, 0, 0, 0, 1), -2);
        Due.due("make(2, 0, 0, 0, 1)", x.make(2, 0, 0, 0, 1), -2);
        Due.due("make(0, 0, 1, -1, 1)", x.make(0, 0, 1, -1, 1), -2);
        Due.due("make(0, 0, 1, 10000, 10001)", x.make(0, 0, 1, 10000, 10001), -2);
        Due.due("make(0, 0, 1, 5, 4)", x.make(0, 0, 1, 5, 4), -2);
        Due.due("make(0, 0, 1, 0, 100000)", x.make(0, 0, 1, 0, 100000), -2);
        Due.same("after wrong calls", Due.told(x), before);
        Due.due("states", x.count(15), 0);
        Due.due("make(0, 0, 0, 0, 0)", x.make(0, 0, 0, 0, 0), 1);
    }
}
