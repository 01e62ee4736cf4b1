/** Promise 14: cost. */
public final class Promise14CostTest {
    public static void main(String[] args) {
        KeptPlans x = new KeptPlans();
        costs(x, 0, 0, 100, 7, 200);
        costs(x, 0, 5, 100, 22, 200);
        costs(x, 0, 9999, 100, 30004, 200);
        costs(x, 1, 1, 100, 37, 200);
        costs(x, 1, 10, 100, 307, 200);
        costs(x, 1, 11, 100, 307, 200);
        costs(x, 1, 9999, 100, 307, 200);
        costs(x, 2, 1, 101, 8, 107);
        costs(x, 2, 7, 121, 14, 149);
        costs(x, 2, 8, 132, 15, 156);
        costs(x, 2, 9999, 100 + 9999 * 14, 10006, 100 + 9999 * 7);
        x.table(1, false, 9999);
        x.table(1, true, 9999);
        costs(x, 3, 9999, 9999, 14 + 29997, 19998);
        costs(x, 4, 9999, 9999, 14 + 29997, 19998);
        costs(x, 4, 1, 9999, 17, 19998);
        costs(x, 5, 9999, 9999 + 139986, 14 + 9999, 9999 + 139986);
        x.table(2, false, 0);
        costs(x, 6, 4, 0, 12, 0);
        costs(x, 7, 4, 0, 0, 0);
        costs(x, 8, 4, 12, 4, 0);
        x.table(3, false, 7);
        x.table(3, true, 3);
        costs(x, 10, 1, 7, 3 + 9, 14);
        costs(x, 10, 2, 7, 3 + 15, 14);
        costs(x, 10, 3, 7, 3 + 21, 14);
        x.table(3, false, 8);
        costs(x, 9, 1, 8, 4 + 3, 16);
        costs(x, 11, 3, 8 + 6, 4 + 3, 8 + 12);
        wrongOnes(x);
        Due.end();
    }

    private static void costs(KeptPlans x, int shape, int number, int list, int order, int heap) {
        Due.due("cost(" + shape + ", 0, " + number + ")", x.cost(shape, 0, number), list);
        Due.due("cost(" + shape + ", 1, " + number + ")", x.cost(shape, 1, number), order);
        Due.due("cost(" + shape + ", 2, " + number + ")", x.cost(shape, 2, number), heap);
    }

    private static void wrongOnes(KeptPlans x) {
        int states = x.count(15);
        Due.due("cost(-1, 0, 1)", x.cost(-1, 0, 1), -1);
        Due.due("cost(12, 3, -1)", x.cost(12, 3, -1), -1);
        Due.due("cost(0, -1, 1)", x.cost(0, -1, 1), -2);
        Due.due("cost(0, 3, 1)", x.cost(0, 3, 1), -2);
        Due.due("cost(0, 0, -1)", x.cost(0, 0, -1), -2);
        Due.due("cost(0, 0, 10000)", x.cost(0, 0, 10000), -2);
        Due.due("cost(1, 0, 0)", x.cost(1, 0, 0), -2);
        Due.due("cost(2, 0, 0)", x.cost(2, 0, 0), -2);
        Due.due("no act", x.count(15), states);
        Due.due("no question", x.count(3), 0);
    }
}
