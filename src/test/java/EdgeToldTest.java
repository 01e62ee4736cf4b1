import java.util.function.Supplier;

/** The edges of the promises 14 to 22, beside those of the Terms. */
public final class EdgeToldTest {
    private static final Supplier<KeptPlans> BUSY = Due::busy;
    private static final Supplier<KeptPlans> NEW = KeptPlans::new;

    public static void main(String[] args) {
        costWithoutLooking();
        cheapestLooksAtNoPlan();
        whatOfPlans();
        staleOrNot();
        sinceItWasUsed();
        reasonsAtTheEdges();
        theFirstReasonThatHolds();
        whatOfIfAsked();
        ifAskedOfAHit();
        ifAskedOfAMiss();
        ifAskedWhatIsThrownOut();
        howMuchMoreItCosts();
        ifAskedIsAsAsked();
        reachUpTo200();
        reachFromTheLeastNumber();
        reachAddsUp();
        oldestWithoutAPlan();
        whatOfTables();
        whatOfCounts();
        countsOfNothingAndOfAll();
        Due.end();
    }

    // Promise 14: "Tells what a question costs by a way, without looking for it."
    private static void costWithoutLooking() {
        Supplier<KeptPlans> dear = () -> Due.withSetting(0, 999);
        Due.tells(dear, "cost(0, 1, 5)", x -> x.cost(0, 1, 5), 22);
        KeptPlans x = Due.busy();
        Due.due("the guess does not matter", x.cost(0, 1, 2), 4 + 6);
        Due.due("no question", x.count(3), 9);
    }

    // Promise 15: "Tells the cheapest way for a question", whatever plan is kept
    private static void cheapestLooksAtNoPlan() {
        Supplier<KeptPlans> withPlan = () -> {
            KeptPlans x = new KeptPlans();
            x.make(0, 2, 5, 0, 9999);
            return x;
        };
        Due.tells(withPlan, "cheapest(0, 5)", x -> x.cheapest(0, 5), 1);
        Due.tells(withPlan, "ifAsked(0, 5, 1)", x -> x.ifAsked(0, 5, 1), 2);
        Supplier<KeptPlans> equal = () -> Due.withRows(0, 97);
        Due.tells(equal, "cheapest(0, 29)", x -> x.cheapest(0, 29), 1);
        Due.tells(equal, "cheapest(0, 30), two cost 97", x -> x.cheapest(0, 30), 0);
        Due.tells(equal, "cheapest(0, 31)", x -> x.cheapest(0, 31), 0);
        Supplier<KeptPlans> oneRow = () -> Due.withRows(0, 1);
        Due.tells(oneRow, "cheapest(2, 1), all cost 2", x -> x.cheapest(2, 1), 0);
        Due.tells(oneRow, "cheapest(2, 2), two cost 3", x -> x.cheapest(2, 2), 1);
        Supplier<KeptPlans> noRow = () -> Due.withRows(0, 0);
        Due.tells(noRow, "cheapest(0, 0), all cost 0", x -> x.cheapest(0, 0), 0);
        Due.tells(noRow, "cheapest(0, 1), two cost 0", x -> x.cheapest(0, 1), 0);
        Due.tells(noRow, "cheapest(2, 1), the heap costs 0", x -> x.cheapest(2, 1), 2);
    }

    // Promise 16: "what": 0 to 10
    private static void whatOfPlans() {
        int[] due = {1, 2, 18, 6, 26, 1, 0, 1, 0, 1, 210};
        for (int i = 0; i <= 10; i++) {
            int what = i;
            Due.tells(BUSY, "plan(9, " + what + ")", x -> x.plan(9, what), due[what]);
        }
        Due.refused(BUSY, "plan(9, -1)", x -> x.plan(9, -1), Due.BAD_VALUE);
        Due.refused(BUSY, "plan(9, 11)", x -> x.plan(9, 11), Due.BAD_VALUE);
        for (int i = 0; i < 12; i++) {
            int shape = i;
            Due.refused(NEW, "plan(" + shape + ", 0)", x -> x.plan(shape, 0), Due.UNKNOWN);
        }
    }

    // "6 for whether it is stale (1, otherwise 0)": its bounds do not matter
    private static void staleOrNot() {
        KeptPlans x = Due.withSetting(2, 1);
        x.make(0, 0, 5, 6, 6);
        Due.due("not stale", x.plan(0, 6), 0);
        x.ask(3, 1);
        Due.due("at the age 1", x.plan(0, 6), 0);
        x.ask(3, 1);
        Due.due("at the age 2", x.plan(0, 6), 1);
        x.table(0, false, 151);
        Due.due("for both", x.plan(0, 6), 1);
        x.set(2, 2);
        Due.due("for its rows", x.plan(0, 6), 1);
        x.table(0, false, 150);
        Due.due("not stale any more", x.plan(0, 6), 0);
    }

    // "8 for how often it was used", "9 for the questions that were asked since it was used or made last"
    private static void sinceItWasUsed() {
        KeptPlans x = new KeptPlans();
        x.ask(0, 5);
        for (int i = 0; i < 3; i++) {
            Due.due("since it was made", x.plan(0, 9), i);
            Due.due("never used", x.plan(0, 8), 0);
            x.ask(3, 1);
        }
        x.ask(0, 5);
        Due.due("used", x.plan(0, 8), 1);
        Due.due("since it was used", x.plan(0, 9), 0);
        Due.due("its age", x.plan(0, 5), 4);
        x.ask(0, 10);
        Due.due("used twice", x.plan(0, 8), 2);
        x.ask(0, 11);
        Due.due("a new one", x.plan(0, 8), 0);
        Due.due("since it was made", x.plan(0, 9), 0);
        x.ask(0, 0);
        Due.due("a new one", x.plan(0, 8), 0);
    }

    // Promise 17
    private static void reasonsAtTheEdges() {
        Supplier<KeptPlans> withPlan = () -> {
            KeptPlans x = Due.withSetting(2, 1);
            x.make(4, 0, 5, 3, 8);
            x.ask(0, 1);
            return x;
        };
        Due.tells(withPlan, "reason(3, 5)", x -> x.reason(3, 5), 1);
        Due.tells(withPlan, "reason(5, 5)", x -> x.reason(5, 5), 1);
        Due.tells(withPlan, "reason(4, 1)", x -> x.reason(4, 1), 2);
        Due.tells(withPlan, "reason(4, 2)", x -> x.reason(4, 2), 2);
        Due.tells(withPlan, "reason(4, 3)", x -> x.reason(4, 3), 0);
        Due.tells(withPlan, "reason(4, 8)", x -> x.reason(4, 8), 0);
        Due.tells(withPlan, "reason(4, 9)", x -> x.reason(4, 9), 3);
        Due.tells(withPlan, "reason(4, 9999)", x -> x.reason(4, 9999), 3);
        Due.refused(withPlan, "reason(4, 0)", x -> x.reason(4, 0), Due.BAD_VALUE);
        Due.refused(withPlan, "reason(4, 10000)", x -> x.reason(4, 10000), Due.BAD_VALUE);
        int[] rows = {49, 50, 150, 151};
        int[] due = {4, 0, 0, 4};
        for (int i = 0; i < rows.length; i++) {
            KeptPlans x = withPlan.get();
            x.table(1, false, rows[i]);
            Due.due("reason with " + rows[i] + " rows", x.reason(4, 5), due[i]);
        }
        KeptPlans x = withPlan.get();
        x.ask(0, 1);
        Due.due("reason at the age 2", x.reason(4, 5), 5);
    }

    // "the first that holds"
    private static void theFirstReasonThatHolds() {
        KeptPlans x = Due.withSetting(2, 1);
        x.make(4, 0, 5, 3, 8);
        x.table(1, false, 151);
        x.ask(0, 1);
        x.ask(0, 1);
        Due.due("below, rows and age", x.reason(4, 2), 2);
        Due.due("above, rows and age", x.reason(4, 9), 3);
        Due.due("rows and age", x.reason(4, 5), 4);
        x.table(1, false, 100);
        Due.due("below and age", x.reason(4, 2), 2);
        Due.due("above and age", x.reason(4, 9), 3);
        Due.due("age", x.reason(4, 5), 5);
        x.throwOut(4);
        Due.due("none", x.reason(4, 2), 1);
    }

    // Promise 18: "what": 0 to 4
    private static void whatOfIfAsked() {
        int[] miss = {100, 1, 0, Due.NONE, 50};
        for (int i = 0; i <= 4; i++) {
            int what = i;
            Supplier<KeptPlans> begin = () -> Due.withRows(0, 300);
            int due = what == 0 ? 50 + 9 + 15 : miss[what];
            Due.tells(begin, "ifAsked(0, 5, " + what + ")", x -> x.ifAsked(0, 5, what), due);
        }
        Due.refused(BUSY, "ifAsked(0, 5, -1)", x -> x.ifAsked(0, 5, -1), Due.BAD_VALUE);
        Due.refused(BUSY, "ifAsked(0, 5, 5)", x -> x.ifAsked(0, 5, 5), Due.BAD_VALUE);
        Due.refused(BUSY, "ifAsked(0, -1, 0)", x -> x.ifAsked(0, -1, 0), Due.BAD_VALUE);
        Due.refused(BUSY, "ifAsked(0, 10000, 3)", x -> x.ifAsked(0, 10000, 3), Due.BAD_VALUE);
        Due.refused(BUSY, "ifAsked(1, 0, 3)", x -> x.ifAsked(1, 0, 3), Due.BAD_VALUE);
        Due.refused(BUSY, "ifAsked(12, 1, 3)", x -> x.ifAsked(12, 1, 3), Due.UNKNOWN);
    }

    private static void asked(String when, KeptPlans x, int shape, int number, int... due) {
        for (int what = 0; what < due.length; what++) {
            Due.due(when + ": ifAsked(" + shape + ", " + number + ", " + what + ")",
                x.ifAsked(shape, number, what), due[what]);
        }
    }

    private static KeptPlans byHeap(int room) {
        KeptPlans x = Due.withSetting(3, room);
        x.make(0, 2, 5, 3, 8);
        return x;
    }

    private static void ifAskedOfAHit() {
        asked("the least bound", byHeap(1), 0, 3, 200, 2, 0, Due.NONE, 184);
        asked("the greatest bound", byHeap(1), 0, 8, 200, 2, 0, Due.NONE, 169);
        KeptPlans x = Due.withSetting(4, 1);
        x.make(0, 1, 5, 0, 9999);
        asked("at the guess", x, 0, 5, 22, 1, 0, Due.NONE, 0);
        asked("above the guess", x, 0, 6, 25, 1, 1, Due.NONE, 0);
        asked("another way is cheaper by 1", x, 0, 31, 100, 1, 1, Due.NONE, 0);
        asked("another way is cheaper by 3", x, 0, 32, 103, 1, 1, Due.NONE, 3);
    }

    private static void ifAskedOfAMiss() {
        asked("below the bounds", byHeap(1), 0, 2, 63, 1, 0, Due.NONE, 50);
        asked("above the bounds", byHeap(1), 0, 9, 84, 1, 0, Due.NONE, 50);
        asked("without a plan", byHeap(1), 3, 5, 72, 1, 0, 0, 50);
        asked("with room", byHeap(2), 3, 5, 72, 1, 0, Due.NONE, 50);
        KeptPlans x = byHeap(1);
        x.set(0, 0);
        asked("looking costs 0", x, 3, 5, 22, 1, 0, 0, 0);
        x.set(0, 999);
        asked("looking costs 999", x, 3, 5, 1021, 1, 0, 0, 999);
        x.set(2, 1);
        x.ask(0, 5);
        x.ask(0, 5);
        asked("too old", x, 0, 5, 1021, 1, 0, Due.NONE, 999);
    }

    // "3 for the shape of the first plan that is thrown out for want of room (NONE without one)"
    private static void ifAskedWhatIsThrownOut() {
        KeptPlans x = byHeap(1);
        Due.due("in place of its own", x.ifAsked(0, 9, 3), Due.NONE);
        Due.due("of another shape", x.ifAsked(11, 9, 3), 0);
        x.pin(0, true);
        Due.due("all are pinned", x.ifAsked(11, 9, 3), Due.NONE);
        x.throwOut(0);
        Due.due("without a plan", x.ifAsked(11, 9, 3), Due.NONE);
        x = new KeptPlans();
        x.make(0, 1, 1, 0, 9999);
        x.set(3, 1);
        Due.due("a plan that turns bad is not thrown out for want of room", x.ifAsked(0, 500, 3), Due.NONE);
        Due.due("it turns bad", x.ifAsked(0, 500, 2), 1);
    }

    // "4 for how much more it costs than the cheapest way (looking included)"
    private static void howMuchMoreItCosts() {
        KeptPlans x = byHeap(6);
        for (int number = 0; number <= 20; number++) {
            int best = x.cost(0, x.cheapest(0, number), number);
            Due.due("ifAsked(0, " + number + ", 4)", x.ifAsked(0, number, 4), x.ifAsked(0, number, 0) - best);
        }
    }

    private static void ifAskedIsAsAsked() {
        for (int shape = 0; shape < 12; shape++) {
            for (int number : new int[] {1, 2, 3, 6, 7, 18, 19, 500, 9999}) {
                KeptPlans x = Due.busy();
                int price = x.ifAsked(shape, number, 0);
                int bad = x.ifAsked(shape, number, 2);
                int out = x.ifAsked(shape, number, 3);
                int badOnes = x.count(8);
                int outOnes = x.count(9);
                Due.due("ask(" + shape + ", " + number + ")", x.ask(shape, number), price);
                Due.due("bad by it", x.count(8) - badOnes, bad);
                Due.due("one is out by it", x.count(9) - outOnes, out == Due.NONE ? 0 : 1);
                Due.due("that one", out == Due.NONE ? Due.UNKNOWN : x.plan(out, 0), Due.UNKNOWN);
            }
        }
    }

    private static void reach(int rows, int shape, int... due) {
        Supplier<KeptPlans> begin = () -> Due.withRows(0, rows);
        for (int i = 0; i < 3; i++) {
            int way = i;
            String call = "with " + rows + " rows: reach(" + shape + ", " + way + ")";
            Due.tells(begin, call, x -> x.reach(shape, way), due[way]);
        }
    }

    // Promise 19: "up to 200": for 200 the order costs 610, for 201 613
    private static void reachUpTo200() {
        reach(607, 0, 2, 199, 0);
        reach(610, 0, 1, 200, 0);
        reach(611, 0, 0, 201, 0);
        reach(614, 0, 0, 201, 0);
        // With 1 row only the greatest one is cheapest by the list.
        reach(1, 2, 1, 199, 0);
        reach(0, 2, 0, 0, 200);
    }

    // "from the least one of the kind (0 or 1)"
    private static void reachFromTheLeastNumber() {
        // For 0 the order costs 1 with 1 row, as the list does; with 2 rows it costs 2, as the list does.
        reach(1, 0, 201, 0, 0);
        reach(2, 0, 201, 0, 0);
        reach(3, 0, 200, 1, 0);
        reach(0, 0, 201, 0, 0);
        reach(0, 1, 200, 0, 0);
        reach(100, 1, 197, 3, 0);
    }

    private static void reachAddsUp() {
        for (int rows : new int[] {0, 1, 2, 50, 100, 600, 9999}) {
            KeptPlans x = Due.withRows(0, rows);
            for (int shape = 0; shape < 3; shape++) {
                int all = x.reach(shape, 0) + x.reach(shape, 1) + x.reach(shape, 2);
                Due.due("all numbers of the kind " + shape, all, shape == 0 ? 201 : 200);
            }
        }
        KeptPlans x = Due.busy();
        int[] counted = new int[3];
        for (int number = 1; number <= 200; number++) {
            counted[x.cheapest(10, number)]++;
        }
        for (int way = 0; way < 3; way++) {
            Due.due("as cheapest() tells it", x.reach(10, way), counted[way]);
        }
    }

    // Promise 20: "NONE without one that is not pinned."
    private static void oldestWithoutAPlan() {
        Due.tells(NEW, "oldest() without plans", KeptPlans::oldest, Due.NONE);
        Supplier<KeptPlans> one = () -> {
            KeptPlans x = new KeptPlans();
            x.ask(11, 1);
            return x;
        };
        Due.tells(one, "oldest() of one", KeptPlans::oldest, 11);
        Supplier<KeptPlans> pinned = () -> {
            KeptPlans x = one.get();
            x.pin(11, true);
            return x;
        };
        Due.tells(pinned, "oldest() of a pinned one", KeptPlans::oldest, Due.NONE);
        Due.tells(BUSY, "oldest()", KeptPlans::oldest, 1);
        KeptPlans x = new KeptPlans();
        for (int shape = 11; shape >= 6; shape--) {
            x.ask(shape, 1);
        }
        for (int shape = 11; shape >= 6; shape--) {
            Due.due("oldest()", x.oldest(), shape);
            Due.due("as would be thrown out", x.ifAsked(0, 1, 3), shape);
            x.pin(shape, true);
        }
        Due.due("oldest() when all are pinned", x.oldest(), Due.NONE);
    }

    // Promise 21: "what": 0 to 4
    private static void whatOfTables() {
        int[][] due = {{10, 5, 2, 3, 167}, {110, 6, 1, 3, 177}, {160, 7, 0, 1, 200}, {210, 8, 1, 2, 122}};
        for (int i = 0; i < 4; i++) {
            int table = i;
            for (int j = 0; j <= 4; j++) {
                int what = j;
                String call = "tableOf(" + table + ", " + what + ")";
                Due.tells(BUSY, call, x -> x.tableOf(table, what), due[table][what]);
            }
            Due.refused(BUSY, "tableOf(.., -1)", x -> x.tableOf(table, -1), Due.BAD_VALUE);
            Due.refused(BUSY, "tableOf(.., 5)", x -> x.tableOf(table, 5), Due.BAD_VALUE);
        }
        KeptPlans x = Due.withSetting(3, 12);
        for (int shape = 0; shape < 12; shape++) {
            Due.due("plans for it", x.tableOf(shape / 3, 2), shape % 3);
            x.ask(shape, 1);
            Due.due("plans for it", x.tableOf(shape / 3, 2), shape % 3 + 1);
        }
    }

    // Promise 22: "what": 0 to 16
    private static void whatOfCounts() {
        int[] due = {4, 1, 2, 9, 2, 7, 666, 280, 1, 2, 40, 3, 9, 4, 2, 4, 16};
        for (int i = 0; i <= 16; i++) {
            int what = i;
            Due.tells(BUSY, "count(" + what + ")", x -> x.count(what), due[what]);
        }
        for (int what : new int[] {-1, 17, Due.LOWEST, Due.HIGHEST}) {
            Due.refused(BUSY, "count(" + what + ")", x -> x.count(what), Due.BAD_VALUE);
        }
    }

    private static void countsOfNothingAndOfAll() {
        int[] due = {0, 0, 0, 0, 0, 0, 0, 0, 0, 0, 50, 2, 20, 6, 4, 0, 0};
        for (int i = 0; i <= 16; i++) {
            int what = i;
            Due.tells(NEW, "count(" + what + ") at first", x -> x.count(what), due[what]);
        }
        KeptPlans x = Due.withSetting(3, 12);
        for (int shape = 0; shape < 12; shape++) {
            x.ask(shape, 1);
            x.pin(shape, true);
        }
        x.set(2, 1);
        Due.due("kept", x.count(0), 12);
        Due.due("pinned", x.count(1), 12);
        Due.due("stale", x.count(2), 10);
        for (int table = 0; table < 4; table++) {
            x.table(table, false, 0);
        }
        Due.due("stale", x.count(2), 12);
        Due.due("states", x.count(15), 4);
        Due.due("the length of a full text", Due.fullText().count(16), 80);
    }
}
