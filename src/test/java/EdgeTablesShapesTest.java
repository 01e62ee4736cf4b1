import java.util.function.Supplier;

/** The edges of the Terms: TABLES, SHAPES. */
public final class EdgeTablesShapesTest {
    private static final Supplier<KeptPlans> BUSY = Due::busy;
    private static final Supplier<KeptPlans> NEW = KeptPlans::new;
    private static final int[] NO_TABLES = {-1, 4, Due.LOWEST, Due.HIGHEST};
    private static final int[] NO_SHAPES = {-1, 12, -3, Due.LOWEST, Due.HIGHEST};

    public static void main(String[] args) {
        fourTables();
        rowsOfTables();
        keysOfTables();
        twelveShapes();
        shapesAreTableAndKind();
        leastNumbersOfKinds();
        greatestNumbersOfKinds();
        Due.end();
    }

    // "There are 4 tables, 0 to 3"
    private static void fourTables() {
        for (int table = 0; table <= 3; table++) {
            int taken = table;
            Due.act(NEW, "table(" + table + ", false, 7)", x -> x.table(taken, false, 7), 100);
            Due.act(NEW, "table(" + table + ", true, 7)", x -> x.table(taken, true, 7), 10);
            Due.tells(NEW, "tableOf(" + table + ", 0)", x -> x.tableOf(taken, 0), 100);
            for (int other = 0; other <= 3; other++) {
                Due.due("rows of " + other, Due.withRows(table, 7).tableOf(other, 0), other == table ? 7 : 100);
            }
        }
        for (int table : NO_TABLES) {
            Due.refused(BUSY, "table(" + table + ", false, 7)", x -> x.table(table, false, 7), Due.UNKNOWN);
            Due.refused(BUSY, "table(" + table + ", true, 7)", x -> x.table(table, true, 7), Due.UNKNOWN);
            Due.refused(BUSY, "tableOf(" + table + ", 0)", x -> x.tableOf(table, 0), Due.UNKNOWN);
        }
    }

    // "each with rows (0 to 9999; 100 at first)"
    private static void rowsOfTables() {
        for (int i = 0; i <= 3; i++) {
            int table = i;
            Due.due("rows at first", new KeptPlans().tableOf(table, 0), 100);
            Due.act(NEW, "rows 0", x -> x.table(table, false, 0), 100);
            Due.act(NEW, "rows 1", x -> x.table(table, false, 1), 100);
            Due.act(NEW, "rows 9998", x -> x.table(table, false, 9998), 100);
            Due.act(NEW, "rows 9999", x -> x.table(table, false, 9999), 100);
            Due.due("rows 0", Due.withRows(table, 0).tableOf(table, 0), 0);
            Due.due("rows 9999", Due.withRows(table, 9999).tableOf(table, 0), 9999);
            Due.refused(BUSY, "rows -1", x -> x.table(table, false, -1), Due.BAD_VALUE);
            Due.refused(BUSY, "rows 10000", x -> x.table(table, false, 10000), Due.BAD_VALUE);
            Due.refused(BUSY, "the lowest rows", x -> x.table(table, false, Due.LOWEST), Due.BAD_VALUE);
            Due.refused(BUSY, "the highest rows", x -> x.table(table, false, Due.HIGHEST), Due.BAD_VALUE);
        }
    }

    // "and keys (1 to 9999; 10 at first)"
    private static void keysOfTables() {
        for (int i = 0; i <= 3; i++) {
            int table = i;
            Due.due("keys at first", new KeptPlans().tableOf(table, 1), 10);
            Due.act(NEW, "keys 1", x -> x.table(table, true, 1), 10);
            Due.act(NEW, "keys 2", x -> x.table(table, true, 2), 10);
            Due.act(NEW, "keys 9998", x -> x.table(table, true, 9998), 10);
            Due.act(NEW, "keys 9999", x -> x.table(table, true, 9999), 10);
            KeptPlans x = new KeptPlans();
            x.table(table, true, 1);
            Due.due("keys 1", x.tableOf(table, 1), 1);
            x.table(table, true, 9999);
            Due.due("keys 9999", x.tableOf(table, 1), 9999);
            Due.due("rows stay", x.tableOf(table, 0), 100);
            Due.refused(BUSY, "keys 0", y -> y.table(table, true, 0), Due.BAD_VALUE);
            Due.refused(BUSY, "keys -1", y -> y.table(table, true, -1), Due.BAD_VALUE);
            Due.refused(BUSY, "keys 10000", y -> y.table(table, true, 10000), Due.BAD_VALUE);
            Due.refused(BUSY, "the lowest keys", y -> y.table(table, true, Due.LOWEST), Due.BAD_VALUE);
            Due.refused(BUSY, "the highest keys", y -> y.table(table, true, Due.HIGHEST), Due.BAD_VALUE);
        }
    }

    // "there are 12 shapes"
    private static void twelveShapes() {
        for (int i = 0; i <= 11; i++) {
            int shape = i;
            KeptPlans x = new KeptPlans();
            Due.due("reason without a plan", x.reason(shape, 1), 1);
            Due.due("make", x.make(shape, 0, 1, 0, 5), 1);
            Due.due("plan", x.plan(shape, 0), 0);
            Due.due("pin", x.pin(shape, true), 1);
            Due.due("reason", x.reason(shape, 1), 0);
            Due.due("ifAsked", x.ifAsked(shape, 1, 1), 0);
            Due.due("throwOut", x.throwOut(shape), 0);
            Due.due("cost", x.cost(shape, 0, 1), shape % 3 == 2 ? 101 : 100);
            Due.due("cheapest", x.cheapest(shape, 1), 1);
            Due.due("reach", x.reach(shape, 2), 0);
            Due.due("ask", x.ask(shape, 1), new int[] {60, 87, 58}[shape % 3]);
        }
        for (int shape : NO_SHAPES) {
            Due.refused(BUSY, "ask(" + shape + ")", x -> x.ask(shape, 1), Due.UNKNOWN);
            Due.refused(BUSY, "pin(" + shape + ")", x -> x.pin(shape, true), Due.UNKNOWN);
            Due.refused(BUSY, "unpin(" + shape + ")", x -> x.pin(shape, false), Due.UNKNOWN);
            Due.refused(BUSY, "throwOut(" + shape + ")", x -> x.throwOut(shape), Due.UNKNOWN);
            Due.refused(BUSY, "make(" + shape + ")", x -> x.make(shape, 0, 1, 0, 1), Due.UNKNOWN);
            Due.refused(BUSY, "cost(" + shape + ")", x -> x.cost(shape, 0, 1), Due.UNKNOWN);
            Due.refused(BUSY, "cheapest(" + shape + ")", x -> x.cheapest(shape, 1), Due.UNKNOWN);
            Due.refused(BUSY, "plan(" + shape + ")", x -> x.plan(shape, 0), Due.UNKNOWN);
            Due.refused(BUSY, "reason(" + shape + ")", x -> x.reason(shape, 1), Due.UNKNOWN);
            Due.refused(BUSY, "ifAsked(" + shape + ")", x -> x.ifAsked(shape, 1, 0), Due.UNKNOWN);
            Due.refused(BUSY, "reach(" + shape + ")", x -> x.reach(shape, 0), Due.UNKNOWN);
        }
    }

    // "told by 3 * the table and the kind"
    private static void shapesAreTableAndKind() {
        for (int table = 0; table < 4; table++) {
            for (int kind = 0; kind < 3; kind++) {
                KeptPlans x = new KeptPlans();
                x.table(table, false, 500);
                x.table(table, true, 50);
                int shape = 3 * table + kind;
                // With 500 rows and 50 keys: 9 and 3 * 4, 9 and 3 * 40, 9 and 4.
                Due.due("cost of the kind " + kind, x.cost(shape, 1, 4), new int[] {21, 129, 13}[kind]);
                x.ask(shape, 4);
                for (int other = 0; other < 4; other++) {
                    Due.due("questions about " + other, x.tableOf(other, 3), other == table ? 1 : 0);
                    Due.due("plans for " + other, x.tableOf(other, 2), other == table ? 1 : 0);
                }
                for (int other = 0; other < 12; other++) {
                    Due.due("a plan of " + other, x.reason(other, 4), other == shape ? 0 : 1);
                }
            }
        }
    }

    private static int leastOf(int shape) {
        return shape % 3 == 0 ? 0 : 1;
    }

    // "(0 to 9999)", "(1 to 9999)", "(1 to 9999)": the least ones, and the next below
    private static void leastNumbersOfKinds() {
        for (int i = 0; i <= 11; i++) {
            int shape = i;
            int least = leastOf(shape);
            Due.act(BUSY, "ask", x -> x.ask(shape, least), BUSY.get().ifAsked(shape, least, 0));
            Due.act(NEW, "make", x -> x.make(shape, 0, least, 0, 1), 1);
            Due.tells(NEW, "cost", x -> x.cost(shape, 1, least), new int[] {7, 37, 8}[shape % 3]);
            Due.tells(NEW, "cheapest", x -> x.cheapest(shape, least), 1);
            Due.tells(NEW, "reason", x -> x.reason(shape, least), 1);
            Due.tells(NEW, "ifAsked", x -> x.ifAsked(shape, least, 1), 1);
            numberIsRefused(shape, least - 1);
            numberIsRefused(shape, -1);
            numberIsRefused(shape, Due.LOWEST);
        }
    }

    private static void greatestNumbersOfKinds() {
        for (int i = 0; i <= 11; i++) {
            int shape = i;
            int[] orders = {7 + 3 * 9999, 307, 7 + 9999};
            Due.act(BUSY, "ask", x -> x.ask(shape, 9999), BUSY.get().ifAsked(shape, 9999, 0));
            Due.act(NEW, "make", x -> x.make(shape, 0, 9999, 0, 1), 1);
            Due.tells(NEW, "cost", x -> x.cost(shape, 1, 9999), orders[shape % 3]);
            Due.tells(NEW, "cheapest", x -> x.cheapest(shape, 9999), shape % 3 == 2 ? 1 : 0);
            Due.tells(NEW, "reason", x -> x.reason(shape, 9999), 1);
            Due.tells(NEW, "ifAsked", x -> x.ifAsked(shape, 9999, 1), shape % 3 == 2 ? 1 : 0);
            numberIsRefused(shape, 10000);
            numberIsRefused(shape, Due.HIGHEST);
        }
    }

    private static void numberIsRefused(int shape, int number) {
        String of = "(" + shape + ", .. " + number + ")";
        Due.refused(BUSY, "ask" + of, x -> x.ask(shape, number), Due.BAD_VALUE);
        Due.refused(BUSY, "make" + of, x -> x.make(shape, 0, number, 0, 1), Due.BAD_VALUE);
        Due.refused(BUSY, "cost" + of, x -> x.cost(shape, 1, number), Due.BAD_VALUE);
        Due.refused(BUSY, "cheapest" + of, x -> x.cheapest(shape, number), Due.BAD_VALUE);
        Due.refused(BUSY, "reason" + of, x -> x.reason(shape, number), Due.BAD_VALUE);
        for (int what = 0; what <= 4; what++) {
            int asked = what;
            Due.refused(BUSY, "ifAsked" + of, x -> x.ifAsked(shape, number, asked), Due.BAD_VALUE);
        }
    }
}
