/** Promise 19: reach. */
public final class Promise19ReachTest {
    public static void main(String[] args) {
        KeptPlans x = new KeptPlans();
        reach(x, 0, 170, 31, 0);
        reach(x, 1, 197, 3, 0);
        reach(x, 2, 0, 200, 0);
        x.table(1, false, 0);
        reach(x, 3, 201, 0, 0);
        reach(x, 4, 200, 0, 0);
        reach(x, 5, 0, 0, 200);
        x.table(2, false, 9999);
        reach(x, 6, 0, 201, 0);
        // With 600 rows the order costs 598 for 196 rows that are met, and 601 for 197.
        x.table(2, false, 600);
        reach(x, 6, 4, 197, 0);
        // With 1 row: the list costs 1 + n * g(n), the order 1 + n and the heap 1 + n.
        x.table(3, false, 1);
        reach(x, 11, 1, 199, 0);
        reach(x, 9, 201, 0, 0);
        Due.due("reach(-1, 0)", x.reach(-1, 0), -1);
        Due.due("reach(12, 3)", x.reach(12, 3), -1);
        Due.due("reach(0, -1)", x.reach(0, -1), -2);
        Due.due("reach(0, 3)", x.reach(0, 3), -2);
        Due.end();
    }

    private static void reach(KeptPlans x, int shape, int... due) {
        for (int way = 0; way < 3; way++) {
            Due.due("reach(" + shape + ", " + way + ")", x.reach(shape, way), due[way]);
        }
    }
}
