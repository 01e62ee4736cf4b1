/** Promise 20: oldest. */
public final class Promise20OldestTest {
    public static void main(String[] args) {
        KeptPlans x = new KeptPlans();
        Due.due("without a plan", x.oldest(), -4);
        x.ask(8, 1);
        Due.due("oldest()", x.oldest(), 8);
        x.ask(3, 1);
        x.ask(5, 1);
        Due.due("oldest()", x.oldest(), 8);
        x.ask(8, 1);
        Due.due("the one that was used is younger", x.oldest(), 3);
        x.pin(3, true);
        Due.due("not the pinned one", x.oldest(), 5);
        x.make(5, 0, 1, 0, 1);
        Due.due("of two the lowest", x.oldest(), 5);
        x.make(2, 0, 1, 0, 1);
        Due.due("of three the lowest", x.oldest(), 2);
        x.pin(2, true);
        x.pin(5, true);
        Due.due("oldest()", x.oldest(), 8);
        x.pin(8, true);
        Due.due("all are pinned", x.oldest(), -4);
        x.pin(3, false);
        Due.due("oldest()", x.oldest(), 3);
        String before = Due.told(x);
        x.oldest();
        Due.same("after oldest()", Due.told(x), before);
        Due.end();
    }
}
