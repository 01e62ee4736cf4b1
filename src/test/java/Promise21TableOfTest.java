/** Promise 21: tableOf. */
public final class Promise21TableOfTest {
    public static void main(String[] args) {
        KeptPlans x = new KeptPlans();
        x.ask(3, 1);
        x.ask(3, 1);
        x.ask(5, 9);
        x.ask(9, 1);
        x.table(1, false, 120);
        x.table(1, true, 12);
        table(x, 1, 120, 12, 2, 3, 60 + 10 + 66);
        table(x, 3, 100, 10, 1, 1, 60);
        table(x, 0, 100, 10, 0, 0, 0);
        x.throwOut(5);
        table(x, 1, 120, 12, 1, 3, 136);
        x.ask(4, 1);
        x.ask(5, 1);
        table(x, 1, 120, 12, 3, 5, 136 + 87 + 58);
        Due.due("tableOf(-1, 0)", x.tableOf(-1, 0), -1);
        Due.due("tableOf(4, 5)", x.tableOf(4, 5), -1);
        Due.due("tableOf(0, -1)", x.tableOf(0, -1), -2);
        Due.due("tableOf(0, 5)", x.tableOf(0, 5), -2);
        Due.end();
    }

    private static void table(KeptPlans x, int table, int... due) {
        for (int what = 0; what < due.length; what++) {
            Due.due("tableOf(" + table + ", " + what + ")", x.tableOf(table, what), due[what]);
        }
    }
}
