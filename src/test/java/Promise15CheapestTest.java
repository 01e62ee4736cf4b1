/** Promise 15: cheapest. */
public final class Promise15CheapestTest {
    public static void main(String[] args) {
        KeptPlans x = new KeptPlans();
        Due.due("cheapest(0, 0)", x.cheapest(0, 0), 1);
        Due.due("cheapest(0, 30)", x.cheapest(0, 30), 1);
        Due.due("cheapest(0, 31)", x.cheapest(0, 31), 0);
        Due.due("cheapest(1, 3)", x.cheapest(1, 3), 1);
        Due.due("cheapest(1, 4)", x.cheapest(1, 4), 0);
        Due.due("cheapest(2, 9999)", x.cheapest(2, 9999), 1);
        // Of several the lowest: with 97 rows the list and the order cost 97 for 30.
        x.table(0, false, 97);
        Due.due("cost(0, 1, 30)", x.cost(0, 1, 30), 97);
        Due.due("cheapest(0, 30)", x.cheapest(0, 30), 0);
        Due.due("cheapest(0, 29)", x.cheapest(0, 29), 1);
        x.table(0, false, 0);
        Due.due("cheapest(0, 5)", x.cheapest(0, 5), 0);
        Due.due("cheapest(1, 5)", x.cheapest(1, 5), 0);
        Due.due("cheapest(2, 5)", x.cheapest(2, 5), 2);
        // Order and heap both cost 5 with 1 row for 4 of the greatest ones.
        x.table(0, false, 1);
        Due.due("cost(2, 1, 4)", x.cost(2, 1, 4), 5);
        Due.due("cost(2, 2, 4)", x.cost(2, 2, 4), 5);
        Due.due("cheapest(2, 4)", x.cheapest(2, 4), 1);
        // A plan that is kept does not matter.
        x.make(3, 2, 5, 0, 9);
        Due.due("cheapest(3, 5)", x.cheapest(3, 5), 1);
        Due.due("cheapest(-1, 1)", x.cheapest(-1, 1), -1);
        Due.due("cheapest(12, -1)", x.cheapest(12, -1), -1);
        Due.due("cheapest(0, -1)", x.cheapest(0, -1), -2);
        Due.due("cheapest(0, 10000)", x.cheapest(0, 10000), -2);
        Due.due("cheapest(1, 0)", x.cheapest(1, 0), -2);
        Due.due("cheapest(2, 0)", x.cheapest(2, 0), -2);
        Due.end();
    }
}
