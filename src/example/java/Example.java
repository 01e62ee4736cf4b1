/** How KeptPlans is used; README.md shows this file and what it prints. */
public final class Example {
    public static void main(String[] arguments) {
        KeptPlans plans = new KeptPlans();
        int oneKey = 3 * 0 + 0;
        int greatest = 3 * 1 + 2;

        // The first question looks for a way; the plan that is kept answers the next ones.
        tell("ask(0, 5)", plans.ask(oneKey, 5));
        tell("ask(0, 7)", plans.ask(oneKey, 7));
        tell("reason(0, 11)", plans.reason(oneKey, 11));
        tell("plan(0, 2)", plans.plan(oneKey, 2));
        tell("cost(0, 0, 11)", plans.cost(oneKey, 0, 11));
        tell("cheapest(0, 11)", plans.cheapest(oneKey, 11));
        tell("ifAsked(0, 11, 0)", plans.ifAsked(oneKey, 11, 0));
        tell("reach(0, 1)", plans.reach(oneKey, 1));

        // Plans by hand, pins and settings.
        tell("make(5, 2, 9, 0, 50)", plans.make(greatest, 2, 9, 0, 50));
        tell("pin(5, true)", plans.pin(greatest, true));
        tell("set(3, 1)", plans.set(3, 1));
        tell("oldest()", plans.oldest());
        tell("throwOut(5)", plans.throwOut(greatest));

        // A text of questions: the fault of the first one is at the index 9, as -109 tells.
        for (char sign : "key 0 5;tip 1 9".toCharArray()) {
            plans.type(sign);
        }
        tell("askAll()", plans.askAll());
        tell("clearText()", plans.clearText());
        for (char sign : "key 0 5;top 1 9;rows 0 40".toCharArray()) {
            plans.type(sign);
        }
        tell("keep()", plans.keep());
        tell("askAll()", plans.askAll());
        tell("tableOf(0, 0)", plans.tableOf(0, 0));
        tell("undo()", plans.undo());
        tell("tableOf(0, 0)", plans.tableOf(0, 0));
        tell("table(0, false, 40)", plans.table(0, false, 40));
        tell("restore()", plans.restore());
        tell("count(6)", plans.count(6));

        // Wrong arguments are answered; no call throws.
        tell("ask(12, 5)", plans.ask(12, 5));
        tell("ask(0, -1)", plans.ask(oneKey, -1));
    }

    private static void tell(String call, int answer) {
        System.out.println(call + " = " + answer);
    }
}
