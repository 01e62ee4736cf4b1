/** Promise 22: count. */
public final class Promise22CountTest {
    public static void main(String[] args) {
        KeptPlans x = new KeptPlans();
        x.set(3, 2);
        x.set(0, 7);
        x.ask(0, 1);
        x.ask(0, 2);
        x.ask(1, 1);
        x.ask(2, 1);
        counts(x, 2, 0, 0, 4, 1, 3, 17 + 13 + 44 + 15, 21, 0, 1, 7, 2, 20, 2, 4, 4, 0);
        x.pin(1, true);
        x.make(2, 1, 1, 0, 999);
        x.ask(2, 100);
        counts(x, 1, 1, 0, 5, 2, 3, 89 + 107, 21, 1, 1, 7, 2, 20, 2, 4, 4, 0);
        x.set(1, 3);
        x.set(2, 1);
        x.set(4, 5);
        counts(x, 1, 1, 1, 5, 2, 3, 196, 21, 1, 1, 7, 3, 1, 2, 5, 4, 0);
        x.type('k');
        x.type('e');
        x.undo();
        counts(x, 1, 1, 1, 5, 2, 3, 196, 21, 1, 1, 7, 3, 1, 2, 4, 3, 2);
        x.set(2, 999);
        x.table(0, false, 9);
        Due.due("stale for its rows", x.count(2), 1);
        Due.due("count(-1)", x.count(-1), -2);
        Due.due("count(17)", x.count(17), -2);
        Due.due("count(lowest)", x.count(Integer.MIN_VALUE), -2);
        Due.due("count(highest)", x.count(Integer.MAX_VALUE), -2);
        accountsAddUp();
        Due.end();
    }

    private static void counts(KeptPlans x, int... due) {
        for (int what = 0; what < due.length; what++) {
            Due.due("count(" + what + ")", x.count(what), due[what]);
        }
    }

    private static void accountsAddUp() {
        KeptPlans x = new KeptPlans();
        for (int i = 0; i < 100; i++) {
            x.ask(i * 7 % 12, 1 + i * i % 53);
        }
        Due.due("hits and misses", x.count(4) + x.count(5), x.count(3));
        Due.due("looking", x.count(7), 50 * x.count(5));
        int questions = 0;
        int spent = 0;
        int plans = 0;
        for (int table = 0; table < 4; table++) {
            plans += x.tableOf(table, 2);
            questions += x.tableOf(table, 3);
            spent += x.tableOf(table, 4);
        }
        Due.due("plans of all tables", plans, x.count(0));
        Due.due("questions of all tables", questions, x.count(3));
        Due.due("costs of all tables", spent, x.count(6));
    }
}
