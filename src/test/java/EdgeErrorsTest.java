import java.util.function.Supplier;

/** The edges of the Terms: ERRORS. Where several apply, the order of the @return line is the order of the checks. */
public final class EdgeErrorsTest {
    private static final Supplier<KeptPlans> BUSY = Due::busy;

    public static void main(String[] args) {
        constants();
        orderOfTable();
        orderOfAsk();
        orderOfPinAndThrowOut();
        orderOfMake();
        orderOfSet();
        orderOfCost();
        orderOfCheapestAndReason();
        orderOfPlan();
        orderOfIfAsked();
        orderOfReach();
        orderOfTableOf();
        Due.end();
    }

    private static void constants() {
        Due.due("UNKNOWN", KeptPlans.UNKNOWN, -1);
        Due.due("BAD_VALUE", KeptPlans.BAD_VALUE, -2);
        Due.due("FULL", KeptPlans.FULL, -3);
        Due.due("NONE", KeptPlans.NONE, -4);
    }

    private static void orderOfTable() {
        Due.refused(BUSY, "table(4, false, -1)", x -> x.table(4, false, -1), Due.UNKNOWN);
        Due.refused(BUSY, "table(-1, true, 0)", x -> x.table(-1, true, 0), Due.UNKNOWN);
        Due.refused(BUSY, "table(-1, true, 10000)", x -> x.table(-1, true, 10000), Due.UNKNOWN);
        Due.refused(BUSY, "table(0, false, 10)", x -> x.table(0, false, 10), Due.NONE);
        Due.refused(BUSY, "table(0, true, 5)", x -> x.table(0, true, 5), Due.NONE);
        Due.act(BUSY, "table(0, false, 5)", x -> x.table(0, false, 5), 10);
        Due.act(BUSY, "table(0, true, 10)", x -> x.table(0, true, 10), 5);
    }

    private static void orderOfAsk() {
        Due.refused(BUSY, "ask(12, -1)", x -> x.ask(12, -1), Due.UNKNOWN);
        Due.refused(BUSY, "ask(-1, 10000)", x -> x.ask(-1, 10000), Due.UNKNOWN);
        Due.refused(BUSY, "ask(-1, 0)", x -> x.ask(-1, 0), Due.UNKNOWN);
    }

    private static void orderOfPinAndThrowOut() {
        for (int shape : new int[] {2, 3, 4, 6, 7, 8, 10, 11}) {
            Due.refused(BUSY, "pin(" + shape + ", true)", x -> x.pin(shape, true), Due.UNKNOWN);
            // Not NONE, though it is not pinned already.
            Due.refused(BUSY, "pin(" + shape + ", false)", x -> x.pin(shape, false), Due.UNKNOWN);
            Due.refused(BUSY, "throwOut(" + shape + ")", x -> x.throwOut(shape), Due.UNKNOWN);
        }
        Due.refused(BUSY, "pin(9, true)", x -> x.pin(9, true), Due.NONE);
        Due.refused(BUSY, "pin(0, false)", x -> x.pin(0, false), Due.NONE);
        Due.act(BUSY, "pin(9, false)", x -> x.pin(9, false), 0);
        Due.act(BUSY, "pin(0, true)", x -> x.pin(0, true), 2);
        Due.act(BUSY, "throwOut(9)", x -> x.throwOut(9), 3);
    }

    private static KeptPlans allPinned() {
        KeptPlans x = Due.busy();
        x.pin(0, true);
        x.pin(1, true);
        x.pin(5, true);
        return x;
    }

    private static void orderOfMake() {
        Supplier<KeptPlans> pinned = EdgeErrorsTest::allPinned;
        Due.refused(pinned, "make(12, 3, -1, -1, -2)", x -> x.make(12, 3, -1, -1, -2), Due.UNKNOWN);
        Due.refused(pinned, "make(-1, 0, 1, 0, 1)", x -> x.make(-1, 0, 1, 0, 1), Due.UNKNOWN);
        Due.refused(pinned, "make(6, 3, 1, 0, 1)", x -> x.make(6, 3, 1, 0, 1), Due.BAD_VALUE);
        Due.refused(pinned, "make(6, 0, -1, 0, 1)", x -> x.make(6, 0, -1, 0, 1), Due.BAD_VALUE);
        Due.refused(pinned, "make(7, 0, 0, 0, 1)", x -> x.make(7, 0, 0, 0, 1), Due.BAD_VALUE);
        Due.refused(pinned, "make(6, 0, 1, -1, 1)", x -> x.make(6, 0, 1, -1, 1), Due.BAD_VALUE);
        Due.refused(pinned, "make(6, 0, 1, 2, 1)", x -> x.make(6, 0, 1, 2, 1), Due.BAD_VALUE);
        Due.refused(pinned, "make(6, 0, 1, 0, 1)", x -> x.make(6, 0, 1, 0, 1), Due.NONE);
        Due.act(pinned, "make(9, 0, 1, 0, 1)", x -> x.make(9, 0, 1, 0, 1), 4);
    }

    private static void orderOfSet() {
        for (int which : new int[] {-1, 5, 10, Due.LOWEST, Due.HIGHEST}) {
            for (int value : new int[] {1, 4, 50, 0, -1, 1000, Due.LOWEST, Due.HIGHEST}) {
                String call = "set(" + which + ", " + value + ")";
                Due.refused(BUSY, call, x -> x.set(which, value), Due.UNKNOWN);
            }
        }
        Due.refused(BUSY, "set(4, 21)", x -> x.set(4, 21), Due.BAD_VALUE);
        Due.refused(BUSY, "set(4, 2)", x -> x.set(4, 2), Due.NONE);
    }

    private static void orderOfCost() {
        Due.refused(BUSY, "cost(12, 3, -1)", x -> x.cost(12, 3, -1), Due.UNKNOWN);
        Due.refused(BUSY, "cost(-1, -1, 0)", x -> x.cost(-1, -1, 0), Due.UNKNOWN);
        Due.refused(BUSY, "cost(1, 3, 0)", x -> x.cost(1, 3, 0), Due.BAD_VALUE);
        Due.refused(BUSY, "cost(1, 0, 0)", x -> x.cost(1, 0, 0), Due.BAD_VALUE);
        Due.refused(BUSY, "cost(1, 3, 1)", x -> x.cost(1, 3, 1), Due.BAD_VALUE);
    }

    private static void orderOfCheapestAndReason() {
        Due.refused(BUSY, "cheapest(12, -1)", x -> x.cheapest(12, -1), Due.UNKNOWN);
        Due.refused(BUSY, "cheapest(-1, 10000)", x -> x.cheapest(-1, 10000), Due.UNKNOWN);
        Due.refused(BUSY, "reason(12, -1)", x -> x.reason(12, -1), Due.UNKNOWN);
        Due.refused(BUSY, "reason(-1, 10000)", x -> x.reason(-1, 10000), Due.UNKNOWN);
        // A shape without a plan is no unknown one here.
        Due.refused(BUSY, "reason(7, 0)", x -> x.reason(7, 0), Due.BAD_VALUE);
        Due.tells(BUSY, "reason(7, 1)", x -> x.reason(7, 1), 1);
    }

    private static void orderOfPlan() {
        for (int what : new int[] {-1, 0, 10, 11, Due.LOWEST, Due.HIGHEST}) {
            Due.refused(BUSY, "plan(2, " + what + ")", x -> x.plan(2, what), Due.UNKNOWN);
            Due.refused(BUSY, "plan(-1, " + what + ")", x -> x.plan(-1, what), Due.UNKNOWN);
            Due.refused(BUSY, "plan(12, " + what + ")", x -> x.plan(12, what), Due.UNKNOWN);
        }
        for (int what : new int[] {-1, 11, Due.LOWEST, Due.HIGHEST}) {
            Due.refused(BUSY, "plan(0, " + what + ")", x -> x.plan(0, what), Due.BAD_VALUE);
        }
    }

    private static void orderOfIfAsked() {
        Due.refused(BUSY, "ifAsked(12, -1, 5)", x -> x.ifAsked(12, -1, 5), Due.UNKNOWN);
        Due.refused(BUSY, "ifAsked(-1, 1, 0)", x -> x.ifAsked(-1, 1, 0), Due.UNKNOWN);
        Due.refused(BUSY, "ifAsked(-1, 1, -1)", x -> x.ifAsked(-1, 1, -1), Due.UNKNOWN);
        for (int what : new int[] {-1, 5, Due.LOWEST, Due.HIGHEST}) {
            Due.refused(BUSY, "ifAsked(0, 1, " + what + ")", x -> x.ifAsked(0, 1, what), Due.BAD_VALUE);
            Due.refused(BUSY, "ifAsked(6, 1, " + what + ")", x -> x.ifAsked(6, 1, what), Due.BAD_VALUE);
            Due.refused(BUSY, "ifAsked(1, 0, " + what + ")", x -> x.ifAsked(1, 0, what), Due.BAD_VALUE);
        }
    }

    private static void orderOfReach() {
        Due.refused(BUSY, "reach(12, 3)", x -> x.reach(12, 3), Due.UNKNOWN);
        Due.refused(BUSY, "reach(-1, -1)", x -> x.reach(-1, -1), Due.UNKNOWN);
        Due.refused(BUSY, "reach(0, 3)", x -> x.reach(0, 3), Due.BAD_VALUE);
        Due.refused(BUSY, "reach(0, -1)", x -> x.reach(0, -1), Due.BAD_VALUE);
    }

    private static void orderOfTableOf() {
        for (int what : new int[] {-1, 5, Due.LOWEST, Due.HIGHEST}) {
            Due.refused(BUSY, "tableOf(4, " + what + ")", x -> x.tableOf(4, what), Due.UNKNOWN);
            Due.refused(BUSY, "tableOf(-1, " + what + ")", x -> x.tableOf(-1, what), Due.UNKNOWN);
            Due.refused(BUSY, "tableOf(0, " + what + ")", x -> x.tableOf(0, what), Due.BAD_VALUE);
            Due.refused(BUSY, "tableOf(3, " + what + ")", x -> x.tableOf(3, what), Due.BAD_VALUE);
        }
    }
}
