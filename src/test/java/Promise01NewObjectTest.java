/** Promise 1: a new object has tables of 100 rows and 10 keys, and no plans. */
public final class Promise01NewObjectTest {
    public static void main(String[] args) {
        KeptPlans x = new KeptPlans();
        for (int table = 0; table < 4; table++) {
            int[] due = {100, 10, 0, 0, 0};
            for (int what = 0; what < due.length; what++) {
                Due.due("tableOf(" + table + ", " + what + ")", x.tableOf(table, what), due[what]);
            }
        }
        for (int shape = 0; shape < 12; shape++) {
            Due.due("plan(" + shape + ", 0)", x.plan(shape, 0), -1);
            Due.due("reason(" + shape + ", 1)", x.reason(shape, 1), 1);
        }
        int[] counts = {0, 0, 0, 0, 0, 0, 0, 0, 0, 0, 50, 2, 20, 6, 4, 0, 0};
        for (int what = 0; what < counts.length; what++) {
            Due.due("count(" + what + ")", x.count(what), counts[what]);
        }
        Due.due("oldest()", x.oldest(), -4);
        Due.due("undo()", x.undo(), -4);
        Due.due("restore()", x.restore(), -4);
        Due.due("askAll()", x.askAll(), -100);
        Due.due("clearText()", x.clearText(), 0);
        objectsAreApart();
        Due.end();
    }

    private static void objectsAreApart() {
        KeptPlans x = new KeptPlans();
        KeptPlans y = new KeptPlans();
        String before = Due.told(y);
        x.ask(0, 5);
        x.set(3, 1);
        x.table(2, true, 77);
        x.keep();
        x.type('k');
        Due.same("another object", Due.told(y), before);
        Due.due("another object's history", y.count(15), 0);
        Due.due("another object's text", y.count(16), 0);
        Due.due("another object's restore()", y.restore(), -4);
        Due.same("a third object", Due.told(new KeptPlans()), before);
    }
}
