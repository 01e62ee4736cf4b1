/** Promise 3: ask. */
public final class Promise03AskTest {
    public static void main(String[] args) {
        missesAndHits();
        boundsOfPlans();
        stalePlans();
        plansThatTurnBad();
        wantOfRoom();
        pinnedPlansStay();
        pinnedPlansAboveTheRoom();
        wrongOnes();
        Due.end();
    }

    private static void missesAndHits() {
        KeptPlans x = new KeptPlans();
        Due.due("ask(0, 5)", x.ask(0, 5), 72);
        Due.due("questions", x.count(3), 1);
        Due.due("misses", x.count(5), 1);
        Due.due("looking", x.count(7), 50);
        Due.due("ask(0, 7)", x.ask(0, 7), 28);
        Due.due("hits", x.count(4), 1);
        Due.due("misses", x.count(5), 1);
        Due.due("all", x.count(6), 100);
        Due.due("looking", x.count(7), 50);
        Due.due("uses", x.plan(0, 8), 1);
        Due.due("the number it was made for", x.plan(0, 3), 5);
        // A plan of its bounds is used though another way is cheaper.
        x.ask(3, 30);
        Due.due("ask(3, 31)", x.ask(3, 31), 100);
        Due.due("ask(3, 60)", x.ask(3, 60), 187);
        Due.due("ask(3, 61)", x.ask(3, 61), 150);
        Due.due("way", x.plan(3, 0), 0);
        Due.due("uses of the new plan", x.plan(3, 8), 0);
        Due.due("ask(5, 9)", x.ask(5, 9), 66);
        Due.due("ask(4, 3)", x.ask(4, 3), 147);
        Due.due("ask(7, 9999)", x.ask(7, 9999), 150);
        Due.due("states", x.count(15), 4);
        Due.due("undo()", x.undo(), 3);
        Due.due("plan(7, 0)", x.plan(7, 0), -1);
    }

    private static void boundsOfPlans() {
        KeptPlans x = new KeptPlans();
        x.ask(0, 7);
        Due.due("least of 7 / 2", x.plan(0, 1), 3);
        Due.due("most of 7 * 2", x.plan(0, 2), 14);
        x.set(1, 1);
        Due.due("bounds stay", x.plan(0, 2), 14);
        x.ask(1, 7);
        Due.due("least of 7 / 1", x.plan(1, 1), 7);
        Due.due("most of 7 * 1", x.plan(1, 2), 7);
        x.set(1, 20);
        x.ask(3, 9999);
        Due.due("least of 9999 / 20", x.plan(3, 1), 499);
        Due.due("most of 9999 * 20", x.plan(3, 2), 199980);
        x.ask(6, 0);
        Due.due("least of 0", x.plan(6, 1), 0);
        Due.due("most of 0", x.plan(6, 2), 0);
        Due.due("ask(6, 0)", x.ask(6, 0), 7);
        Due.due("ask(6, 1)", x.ask(6, 1), 60);
        Due.due("least of 1 / 20", x.plan(6, 1), 0);
        Due.due("most of 1 * 20", x.plan(6, 2), 20);
    }

    private static void stalePlans() {
        KeptPlans x = new KeptPlans();
        x.ask(0, 5);
        x.table(0, false, 50);
        Due.due("with 50 rows", x.ask(0, 5), 21);
        x.table(0, false, 49);
        Due.due("with 49 rows", x.ask(0, 5), 71);
        Due.due("rows it was made with", x.plan(0, 10), 49);
        x.table(0, false, 73);
        Due.due("with 24 more rows", x.ask(0, 5), 22);
        x.table(0, false, 74);
        Due.due("with 25 more rows", x.ask(0, 5), 72);
        KeptPlans y = Due.withSetting(2, 2);
        y.ask(0, 5);
        y.ask(3, 5);
        y.ask(6, 5);
        Due.due("at the age 2", y.ask(0, 5), 22);
        Due.due("at the age 3", y.ask(0, 5), 72);
        Due.due("new again", y.ask(0, 5), 22);
        y.pin(0, true);
        y.ask(3, 5);
        y.ask(6, 5);
        Due.due("too old though pinned", y.ask(0, 5), 72);
        Due.due("not pinned any more", y.plan(0, 7), 0);
    }

    private static void plansThatTurnBad() {
        KeptPlans x = new KeptPlans();
        x.make(0, 1, 1, 0, 100);
        x.pin(0, true);
        Due.due("guess", x.plan(0, 4), 10);
        Due.due("4 times the guess", x.ask(0, 11), 40);
        Due.due("it stays", x.plan(0, 8), 1);
        Due.due("more than that", x.ask(0, 12), 43);
        Due.due("thrown out", x.plan(0, 0), -1);
        Due.due("turned bad", x.count(8), 1);
        Due.due("not for want of room", x.count(9), 0);
        Due.due("hits", x.count(4), 2);
        Due.due("misses", x.count(5), 0);
        KeptPlans y = new KeptPlans();
        y.table(0, false, 0);
        y.make(0, 0, 1, 0, 9);
        Due.due("the guess 0", y.ask(0, 3), 0);
        Due.due("not bad", y.count(8), 0);
        y.make(2, 0, 1, 0, 9);
        Due.due("guess", y.plan(2, 4), 1);
        Due.due("ask(2, 2)", y.ask(2, 2), 4);
        Due.due("not bad", y.count(8), 0);
        Due.due("ask(2, 3)", y.ask(2, 3), 6);
        Due.due("bad", y.count(8), 1);
    }

    private static void wantOfRoom() {
        KeptPlans x = Due.withSetting(3, 3);
        x.ask(9, 1);
        x.ask(0, 1);
        x.ask(6, 1);
        x.ask(9, 1);
        x.ask(3, 1);
        Due.due("the one used longest ago is out", x.plan(0, 0), -1);
        Due.due("kept", x.count(0), 3);
        Due.due("thrown out", x.count(9), 1);
        x.ask(3, 9);
        Due.due("a new plan of a shape needs no room", x.count(9), 1);
        x.pin(6, true);
        x.ask(1, 1);
        Due.due("pinned", x.plan(6, 0), 1);
        Due.due("the next is out", x.plan(9, 0), -1);
        Due.due("thrown out", x.count(9), 2);
        KeptPlans y = Due.withSetting(3, 2);
        y.make(7, 1, 1, 0, 9);
        y.make(4, 1, 1, 0, 9);
        y.ask(0, 1);
        Due.due("of several the lowest is out", y.plan(4, 0), -1);
        Due.due("the other stays", y.plan(7, 0), 1);
    }

    private static void pinnedPlansStay() {
        KeptPlans x = Due.withSetting(3, 1);
        x.ask(0, 1);
        x.pin(0, true);
        Due.due("ask(3, 1)", x.ask(3, 1), 60);
        Due.due("not kept", x.plan(3, 0), -1);
        Due.due("ask(3, 1) again", x.ask(3, 1), 60);
        Due.due("misses", x.count(5), 3);
        Due.due("thrown out", x.count(9), 0);
        Due.due("ask(0, 9)", x.ask(0, 9), 84);
        Due.due("in place of the pinned one", x.plan(0, 3), 9);
        Due.due("not pinned", x.plan(0, 7), 0);
    }

    private static void pinnedPlansAboveTheRoom() {
        KeptPlans x = new KeptPlans();
        for (int shape = 0; shape < 4; shape++) {
            x.ask(shape, 1);
            x.pin(shape, true);
        }
        x.set(3, 2);
        Due.due("all stay", x.count(0), 4);
        x.pin(1, false);
        x.ask(9, 1);
        Due.due("the free one is out", x.plan(1, 0), -1);
        Due.due("no room all the same", x.plan(9, 0), -1);
        Due.due("kept", x.count(0), 3);
        Due.due("thrown out", x.count(9), 1);
        x.ask(0, 9);
        Due.due("in place of a pinned one", x.plan(0, 3), 9);
        Due.due("kept", x.count(0), 3);
    }

    private static void wrongOnes() {
        KeptPlans x = new KeptPlans();
        String before = Due.told(x);
        Due.due("ask(-1, 1)", x.ask(-1, 1), -1);
        Due.due("ask(12, 1)", x.ask(12, 1), -1);
        Due.due("ask(12, -1)", x.ask(12, -1), -1);
        Due.due("ask(0, -1)", x.ask(0, -1), -2);
        Due.due("ask(0, 10000)", x.ask(0, 10000), -2);
        Due.due("ask(1, 0)", x.ask(1, 0), -2);
        Due.due("ask(2, 0)", x.ask(2, 0), -2);
        Due.due("ask(11, 10000)", x.ask(11, 10000), -2);
        Due.same("after wrong calls", Due.told(x), before);
        Due.due("states", x.count(15), 0);
    }
}
