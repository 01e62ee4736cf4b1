/** Promise 2: table. */
public final class Promise02TableTest {
    public static void main(String[] args) {
        KeptPlans x = new KeptPlans();
        Due.due("table(0, false, 150)", x.table(0, false, 150), 100);
        Due.due("table(0, true, 20)", x.table(0, true, 20), 10);
        Due.due("rows of 0", x.tableOf(0, 0), 150);
        Due.due("keys of 0", x.tableOf(0, 1), 20);
        Due.due("rows of 1", x.tableOf(1, 0), 100);
        Due.due("keys of 1", x.tableOf(1, 1), 10);
        Due.due("table(3, false, 0)", x.table(3, false, 0), 100);
        Due.due("table(3, false, 9999)", x.table(3, false, 9999), 0);
        Due.due("table(3, true, 1)", x.table(3, true, 1), 10);
        Due.due("table(3, true, 9999)", x.table(3, true, 9999), 1);
        Due.due("rows of 3", x.tableOf(3, 0), 9999);
        Due.due("keys of 3", x.tableOf(3, 1), 9999);
        wrongOnes();
        itIsAnAct();
        Due.end();
    }

    private static void wrongOnes() {
        KeptPlans x = new KeptPlans();
        String before = Due.told(x);
        Due.due("table(-1, false, 5)", x.table(-1, false, 5), -1);
        Due.due("table(4, false, 5)", x.table(4, false, 5), -1);
        Due.due("table(4, false, -1)", x.table(4, false, -1), -1);
        Due.due("table(lowest, true, 0)", x.table(Integer.MIN_VALUE, true, 0), -1);
        Due.due("table(highest, true, 0)", x.table(Integer.MAX_VALUE, true, 0), -1);
        Due.due("table(0, false, -1)", x.table(0, false, -1), -2);
        Due.due("table(0, false, 10000)", x.table(0, false, 10000), -2);
        Due.due("table(0, true, 0)", x.table(0, true, 0), -2);
        Due.due("table(0, true, 10000)", x.table(0, true, 10000), -2);
        Due.due("table(0, true, lowest)", x.table(0, true, Integer.MIN_VALUE), -2);
        Due.due("table(1, false, 100)", x.table(1, false, 100), -4);
        Due.due("table(1, true, 10)", x.table(1, true, 10), -4);
        Due.same("after wrong calls", Due.told(x), before);
        Due.due("states", x.count(15), 0);
    }

    private static void itIsAnAct() {
        KeptPlans x = new KeptPlans();
        x.table(1, false, 5);
        x.table(1, true, 6);
        Due.due("states", x.count(15), 2);
        Due.due("undo()", x.undo(), 1);
        Due.due("keys", x.tableOf(1, 1), 10);
        Due.due("rows", x.tableOf(1, 0), 5);
        Due.due("undo()", x.undo(), 0);
        Due.due("rows", x.tableOf(1, 0), 100);
    }
}
