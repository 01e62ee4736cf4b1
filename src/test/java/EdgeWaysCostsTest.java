import java.util.function.Supplier;

/** The edges of the Terms: WAYS, COSTS. */
public final class EdgeWaysCostsTest {
    private static final Supplier<KeptPlans> BUSY = Due::busy;
    private static final Supplier<KeptPlans> NEW = KeptPlans::new;

    public static void main(String[] args) {
        threeWays();
        bitsOfRows();
        bitsOfNumbers();
        listOfNoRowsAndOfMost();
        orderWithoutRows();
        rowsOfSpansAreRoundedUp();
        rowsOfSpansAreAtMostAll();
        heapOfNoRowsAndOfMost();
        theDearestQuestions();
        Due.end();
    }

    // "There are 3 ways."
    private static void threeWays() {
        for (int i = 0; i <= 2; i++) {
            int way = i;
            Due.tells(NEW, "cost(0, " + way + ", 5)", x -> x.cost(0, way, 5), new int[] {100, 22, 200}[way]);
            Due.tells(NEW, "reach(0, " + way + ")", x -> x.reach(0, way), new int[] {170, 31, 0}[way]);
            Due.act(NEW, "make(0, " + way + ", 5, 0, 9)", x -> x.make(0, way, 5, 0, 9), 1);
            KeptPlans x = new KeptPlans();
            x.make(0, way, 5, 0, 9);
            Due.due("its way", x.plan(0, 0), way);
        }
        for (int way : new int[] {-1, 3, Due.LOWEST, Due.HIGHEST}) {
            Due.refused(BUSY, "cost(0, " + way + ", 5)", x -> x.cost(0, way, 5), Due.BAD_VALUE);
            Due.refused(BUSY, "reach(0, " + way + ")", x -> x.reach(0, way), Due.BAD_VALUE);
            Due.refused(BUSY, "make(0, " + way + ", 5, 0, 9)", x -> x.make(0, way, 5, 0, 9), Due.BAD_VALUE);
            Due.refused(BUSY, "make(6, " + way + ", 5, 0, 9)", x -> x.make(6, way, 5, 0, 9), Due.BAD_VALUE);
        }
    }

    // "g(x) for how many bits x has (0 for 0: for 1 it is 1, for 9999 it is 14)", by the rows
    private static void bitsOfRows() {
        KeptPlans x = new KeptPlans();
        x.table(0, false, 0);
        Due.due("g(0) and no row", x.cost(0, 1, 0), 0);
        int bits = 1;
        for (int power = 1; power <= 8192; power *= 2) {
            x.table(0, false, power);
            Due.due("g(" + power + ")", x.cost(0, 1, 0), bits);
            Due.due("g(" + power + ") by the heap", x.cost(2, 2, 1), power + bits);
            x.table(0, false, Math.min(2 * power - 1, 9999));
            Due.due("g(" + x.tableOf(0, 0) + ")", x.cost(0, 1, 0), bits);
            bits++;
        }
        Due.due("the bits of 9999", bits - 1, 14);
    }

    // the same, by the number
    private static void bitsOfNumbers() {
        KeptPlans x = new KeptPlans();
        int bits = 1;
        for (int power = 1; power <= 8192; power *= 2) {
            int last = Math.min(2 * power - 1, 9999);
            Due.due("cost(2, 0, " + power + ")", x.cost(2, 0, power), 100 + power * bits);
            Due.due("cost(2, 0, " + last + ")", x.cost(2, 0, last), 100 + last * bits);
            bits++;
        }
    }

    // "0 (a list): r, and for the kind 2 n * g(n) more"
    private static void listOfNoRowsAndOfMost() {
        KeptPlans x = Due.withRows(0, 0);
        Due.due("a key in no rows", x.cost(0, 0, 9999), 0);
        Due.due("a span of no rows", x.cost(1, 0, 9999), 0);
        Due.due("the greatest one of no rows", x.cost(2, 0, 1), 1);
        Due.due("9999 of no rows", x.cost(2, 0, 9999), 139986);
        x.table(0, false, 9999);
        Due.due("a key in 9999 rows", x.cost(0, 0, 0), 9999);
        Due.due("a span of 9999 rows", x.cost(1, 0, 1), 9999);
        Due.due("the greatest one of 9999 rows", x.cost(2, 0, 1), 10000);
    }

    // "1 (an order): g(r), and the rows that are met": n, though there are not as many
    private static void orderWithoutRows() {
        KeptPlans x = Due.withRows(0, 0);
        Due.due("no row has the key", x.cost(0, 1, 0), 0);
        Due.due("9999 rows have the key", x.cost(0, 1, 9999), 29997);
        Due.due("a span of no rows", x.cost(1, 1, 9999), 0);
        Due.due("the greatest one of no rows", x.cost(2, 1, 1), 1);
        Due.due("9999 of no rows", x.cost(2, 1, 9999), 9999);
    }

    // "r * n / k rounded up"
    private static void rowsOfSpansAreRoundedUp() {
        KeptPlans x = Due.withRows(0, 1);
        x.table(0, true, 9999);
        Due.due("one row of 9999 keys, a key", x.cost(1, 1, 1), 1 + 3);
        x.table(0, false, 7);
        x.table(0, true, 7);
        Due.due("as many rows as keys, 1", x.cost(1, 1, 1), 3 + 3);
        Due.due("as many rows as keys, 6", x.cost(1, 1, 6), 3 + 18);
        x.table(0, true, 6);
        Due.due("7 / 6", x.cost(1, 1, 1), 3 + 6);
        Due.due("35 / 6", x.cost(1, 1, 5), 3 + 18);
        x.table(0, true, 8);
        Due.due("7 / 8", x.cost(1, 1, 1), 3 + 3);
        Due.due("14 / 8", x.cost(1, 1, 2), 3 + 6);
        Due.due("49 / 8", x.cost(1, 1, 7), 3 + 21);
        x.table(0, false, 9999);
        x.table(0, true, 9998);
        Due.due("9999 / 9998", x.cost(1, 1, 1), 14 + 6);
        Due.due("9999 * 9997 / 9998", x.cost(1, 1, 9997), 14 + 3 * 9998);
    }

    // "but at most r"
    private static void rowsOfSpansAreAtMostAll() {
        KeptPlans x = new KeptPlans();
        Due.due("a span of 9 of 10 keys", x.cost(1, 1, 9), 7 + 270);
        Due.due("a span of all 10 keys", x.cost(1, 1, 10), 307);
        Due.due("a span of 11 of 10 keys", x.cost(1, 1, 11), 307);
        Due.due("a span of 9999 of 10 keys", x.cost(1, 1, 9999), 307);
        x.table(0, true, 1);
        Due.due("all of 1 key", x.cost(1, 1, 1), 307);
        Due.due("2 of 1 key", x.cost(1, 1, 2), 307);
        x.table(0, false, 9999);
        Due.due("9999 of 1 key, of 9999 rows", x.cost(1, 1, 9999), 14 + 29997);
    }

    // "2 (a heap): for the kinds 0 and 1 2 * r; for the kind 2 r, and n * g(r)"
    private static void heapOfNoRowsAndOfMost() {
        KeptPlans x = Due.withRows(0, 0);
        Due.due("a key in no rows", x.cost(0, 2, 9999), 0);
        Due.due("a span of no rows", x.cost(1, 2, 9999), 0);
        Due.due("9999 of no rows", x.cost(2, 2, 9999), 0);
        x.table(0, false, 9999);
        Due.due("a key in 9999 rows", x.cost(0, 2, 0), 19998);
        Due.due("a span of 9999 rows", x.cost(1, 2, 1), 19998);
        Due.due("the greatest one of 9999 rows", x.cost(2, 2, 1), 9999 + 14);
    }

    // "A cost is at most 1000000": no question reaches it, and the dearest ones are not cut
    private static void theDearestQuestions() {
        KeptPlans x = Due.withRows(3, 9999);
        x.set(2, 999);
        Due.due("9999 of 9999 by the list", x.cost(11, 0, 9999), 149985);
        Due.due("9999 of 9999 by the heap", x.cost(11, 2, 9999), 149985);
        x.make(11, 0, 9999, 0, 99999);
        Due.due("the guess", x.plan(11, 4), 149985);
        int all = 0;
        for (int i = 0; i < 20; i++) {
            Due.due("ask(11, 9999)", x.ask(11, 9999), 149985);
            all += 149985;
        }
        Due.due("above 1000000 together", x.count(6), all);
        Due.due("above 1000000 for the table", x.tableOf(3, 4), all);
        Due.due("askAll() above 1000000", Due.askAll(x, "top 3 9999;top 3 9999;top 3 9999;top 3 9999;"
            + "top 3 9999;top 3 9999;top 3 9999"), 1049895);
    }
}
