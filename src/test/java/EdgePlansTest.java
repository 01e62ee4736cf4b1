/** The edges of the Terms: PLANS (but for want of room and for plans that turn bad). */
public final class EdgePlansTest {
    public static void main(String[] args) {
        onePlanForAShape();
        boundsAreWithin();
        narrowestAndWidestBounds();
        ofSeveralWaysTheLowest();
        leastAndMostOfLooking();
        boundsByTheSmallestSpread();
        boundsByTheGreatestSpread();
        boundsAreRoundedDown();
        boundsOfTheLeastNumbers();
        newPlansAreNotPinned();
        halfOfTheRows();
        rowsThatComeBack();
        ageAtTheSetting();
        leastSettingOfAge();
        mostSettingOfAge();
        questionsOfAllShapesAge();
        useDoesNotMakeYoung();
        Due.end();
    }

    static void hit(String call, KeptPlans x, int shape, int number) {
        asked(call, x, shape, number, 1);
    }

    static void miss(String call, KeptPlans x, int shape, int number) {
        asked(call, x, shape, number, 0);
    }

    private static void asked(String call, KeptPlans x, int shape, int number, int hit) {
        int hits = x.count(4);
        int misses = x.count(5);
        int looking = x.count(7);
        Due.due(call + ": the reason is 0", x.reason(shape, number) == 0 ? 1 : 0, hit);
        x.ask(shape, number);
        Due.due(call + ": hits", x.count(4) - hits, hit);
        Due.due(call + ": misses", x.count(5) - misses, 1 - hit);
        Due.due(call + ": looking", x.count(7) - looking, hit == 1 ? 0 : x.count(10));
    }

    // "For a shape at most one plan is kept"
    private static void onePlanForAShape() {
        KeptPlans x = Due.withSetting(3, 12);
        for (int shape = 0; shape < 12; shape++) {
            x.ask(shape, 5);
            Due.due("kept", x.count(0), shape + 1);
        }
        for (int shape = 0; shape < 12; shape++) {
            x.ask(shape, 500);
            Due.due("kept", x.count(0), 12);
            Due.due("the later one is kept", x.plan(shape, 3), 500);
            Due.due("make", x.make(shape, 2, 7, 1, 3), 12);
            Due.due("the latest one is kept", x.plan(shape, 3), 7);
        }
        Due.due("none was thrown out", x.count(9), 0);
    }

    private static KeptPlans withBounds(int least, int most) {
        KeptPlans x = new KeptPlans();
        x.make(0, 2, 5, least, most);
        return x;
    }

    // "the least and the greatest number for which it is used (its bounds)"
    private static void boundsAreWithin() {
        miss("below the least", withBounds(3, 8), 0, 2);
        hit("the least", withBounds(3, 8), 0, 3);
        hit("behind the least", withBounds(3, 8), 0, 4);
        hit("ahead of the greatest", withBounds(3, 8), 0, 7);
        hit("the greatest", withBounds(3, 8), 0, 8);
        miss("above the greatest", withBounds(3, 8), 0, 9);
        miss("its own number, out of its bounds", withBounds(6, 9), 0, 5);
        KeptPlans x = withBounds(3, 8);
        miss("out of the bounds", x, 0, 9);
        Due.due("the new plan's least", x.plan(0, 1), 4);
        Due.due("the new plan's most", x.plan(0, 2), 18);
    }

    private static void narrowestAndWidestBounds() {
        miss("below 4 to 4", withBounds(4, 4), 0, 3);
        hit("4 to 4", withBounds(4, 4), 0, 4);
        miss("above 4 to 4", withBounds(4, 4), 0, 5);
        hit("0 to 0", withBounds(0, 0), 0, 0);
        miss("above 0 to 0", withBounds(0, 0), 0, 1);
        miss("below 9999 to 9999", withBounds(9999, 9999), 0, 9998);
        hit("9999 to 9999", withBounds(9999, 9999), 0, 9999);
        hit("9999 of 9999 to 99999", withBounds(9999, 99999), 0, 9999);
        hit("9999 of 0 to 99999", withBounds(0, 99999), 0, 9999);
        hit("0 of 0 to 99999", withBounds(0, 99999), 0, 0);
        miss("9999 of 0 to 9998", withBounds(0, 9998), 0, 9999);
    }

    private static int wayFor(int rows, int shape, int number) {
        KeptPlans x = Due.withRows(0, rows);
        x.ask(shape, number);
        return x.plan(shape, 0);
    }

    // "the cheapest way is looked for, of several the lowest"
    private static void ofSeveralWaysTheLowest() {
        Due.due("list and order cost 97", wayFor(97, 0, 30), 0);
        Due.due("the order costs one less", wayFor(98, 0, 30), 1);
        Due.due("the list costs one less", wayFor(96, 0, 30), 0);
        Due.due("all cost 0", wayFor(0, 0, 0), 0);
        Due.due("list and heap cost 0", wayFor(0, 0, 5), 0);
        Due.due("all cost 0 for a span", wayFor(0, 1, 5), 0);
        Due.due("order and heap cost 5", wayFor(1, 2, 4), 1);
        Due.due("the heap alone costs 0", wayFor(0, 2, 4), 2);
        Due.due("all cost 2", wayFor(1, 2, 1), 0);
    }

    // "which costs the setting 0 (0 to 999; 50 at first) besides"
    private static void leastAndMostOfLooking() {
        KeptPlans x = new KeptPlans();
        Due.due("looking costs 50 at first", x.ask(0, 5), 72);
        x = Due.withSetting(0, 0);
        Due.due("looking costs 0", x.ask(0, 5), 22);
        Due.due("what looking cost", x.count(7), 0);
        x = Due.withSetting(0, 1);
        Due.due("looking costs 1", x.ask(0, 5), 23);
        x = Due.withSetting(0, 999);
        Due.due("looking costs 999", x.ask(0, 5), 1021);
        Due.due("what looking cost", x.count(7), 999);
        Due.due("without looking", x.ask(0, 5), 22);
        Due.due("what looking cost", x.count(7), 999);
    }

    private static void bounds(int spread, int number, int least, int most) {
        KeptPlans x = Due.withSetting(1, spread);
        // So that no plan turns bad while its bounds are tried.
        x.set(4, 20);
        x.ask(0, number);
        String of = " of " + number + " by " + spread;
        Due.due("the least" + of, x.plan(0, 1), least);
        Due.due("the most" + of, x.plan(0, 2), most);
        hit("the least" + of, x, 0, least);
        hit("the most" + of, x, 0, Math.min(most, 9999));
        if (least > 0) {
            Due.due("below the least" + of, x.reason(0, least - 1), 2);
        }
        if (most < 9999) {
            Due.due("above the most" + of, x.reason(0, most + 1), 3);
        }
    }

    // "the setting 1 (1 to 20; 2 at first)"
    private static void boundsByTheSmallestSpread() {
        bounds(1, 0, 0, 0);
        bounds(1, 1, 1, 1);
        bounds(1, 7, 7, 7);
        bounds(1, 9999, 9999, 9999);
        KeptPlans x = new KeptPlans();
        x.ask(0, 8);
        Due.due("2 at first", x.plan(0, 1), 4);
        Due.due("2 at first", x.plan(0, 2), 16);
    }

    private static void boundsByTheGreatestSpread() {
        bounds(20, 0, 0, 0);
        bounds(20, 1, 0, 20);
        bounds(20, 9999, 499, 199980);
        bounds(19, 9999, 526, 189981);
        bounds(20, 499, 24, 9980);
        bounds(20, 500, 25, 10000);
    }

    // "with the bounds from the number divided by the setting 1, rounded down"
    private static void boundsAreRoundedDown() {
        bounds(20, 19, 0, 380);
        bounds(20, 20, 1, 400);
        bounds(20, 39, 1, 780);
        bounds(20, 40, 2, 800);
        bounds(2, 3, 1, 6);
        bounds(3, 5, 1, 15);
        bounds(3, 6, 2, 18);
    }

    private static void boundsOfTheLeastNumbers() {
        bounds(2, 0, 0, 0);
        bounds(2, 1, 0, 2);
        bounds(2, 2, 1, 4);
        KeptPlans x = new KeptPlans();
        x.ask(1, 1);
        Due.due("the least bound of a span of 1", x.plan(1, 1), 0);
        Due.due("the most of a span of 1", x.plan(1, 2), 2);
        x.ask(2, 1);
        Due.due("the least bound of the greatest one", x.plan(2, 1), 0);
    }

    // "its plan is kept then (not pinned) in place of one that was of the shape"
    private static void newPlansAreNotPinned() {
        KeptPlans x = withBounds(3, 8);
        Due.due("not pinned at first", x.plan(0, 7), 0);
        x.pin(0, true);
        hit("pinned", x, 0, 5);
        Due.due("pinned still", x.plan(0, 7), 1);
        miss("pinned, but out of the bounds", x, 0, 9);
        Due.due("the new one is not pinned", x.plan(0, 7), 0);
        Due.due("it was not used", x.plan(0, 8), 0);
        Due.due("pinned ones", x.count(1), 0);
    }

    private static void rows(int made, int now, boolean stale) {
        KeptPlans x = Due.withRows(0, made);
        x.make(0, 0, 5, 0, 9999);
        x.set(4, 20);
        x.table(0, false, now);
        String call = "made with " + made + " rows, now " + now;
        Due.due(call + ": stale", x.plan(0, 6), stale ? 1 : 0);
        Due.due(call + ": all stale ones", x.count(2), stale ? 1 : 0);
        Due.due(call + ": reason", x.reason(0, 5), stale ? 4 : 0);
        asked(call, x, 0, 5, stale ? 0 : 1);
        Due.due(call + ": rows it was made with", x.plan(0, 10), stale ? now : made);
    }

    // "by more than the half of that (rounded down)"
    private static void halfOfTheRows() {
        int[] made = {0, 1, 2, 3, 4, 5, 99, 100, 101, 6665, 6666, 6667, 9998, 9999};
        for (int many : made) {
            int half = many / 2;
            rows(many, many, false);
            rows(many, many - half, false);
            rows(many, Math.min(9999, many + half), false);
            if (many > half) {
                rows(many, many - half - 1, true);
                rows(many, 0, true);
            }
            if (many + half < 9999) {
                rows(many, many + half + 1, true);
            }
        }
    }

    private static void rowsThatComeBack() {
        KeptPlans x = withBounds(3, 8);
        x.table(0, false, 49);
        Due.due("stale", x.plan(0, 6), 1);
        x.table(0, false, 50);
        Due.due("not stale any more", x.plan(0, 6), 0);
        x.table(0, true, 9999);
        x.table(1, false, 0);
        Due.due("keys and other tables do not matter", x.plan(0, 6), 0);
        hit("not stale any more", x, 0, 5);
    }

    // "or if its age is above the setting 2 (1 to 999; 20 at first)"
    private static void ageAtTheSetting() {
        KeptPlans x = new KeptPlans();
        x.ask(0, 5);
        for (int i = 0; i < 20; i++) {
            Due.due("age", x.plan(0, 5), i);
            x.ask(3, 5);
        }
        Due.due("age", x.plan(0, 5), 20);
        Due.due("not stale at 20", x.plan(0, 6), 0);
        Due.due("reason at 20", x.reason(0, 5), 0);
        hit("at 20", x, 0, 5);
        Due.due("age", x.plan(0, 5), 21);
        Due.due("stale at 21", x.plan(0, 6), 1);
        Due.due("reason at 21", x.reason(0, 5), 5);
        miss("at 21", x, 0, 5);
        Due.due("the new one's age", x.plan(0, 5), 0);
    }

    private static void leastSettingOfAge() {
        KeptPlans x = Due.withSetting(2, 1);
        x.make(0, 2, 5, 3, 8);
        hit("at the age 0", x, 0, 5);
        hit("at the age 1", x, 0, 5);
        miss("at the age 2", x, 0, 5);
        hit("at the age 0", x, 0, 5);
        x.set(2, 2);
        hit("at the age 1", x, 0, 5);
        hit("at the age 2, as is told now", x, 0, 5);
        miss("at the age 3", x, 0, 5);
    }

    private static void mostSettingOfAge() {
        KeptPlans x = Due.withSetting(2, 999);
        x.ask(0, 5);
        Due.write(x, "key 1 1;key 1 1;key 1 1;key 1 1;key 1 1;key 1 1;key 1 1;key 1 1;key 1 1;key 1 1");
        for (int i = 0; i < 99; i++) {
            x.askAll();
        }
        for (int i = 0; i < 8; i++) {
            x.ask(3, 1);
        }
        Due.due("age", x.plan(0, 5), 998);
        hit("at 998", x, 0, 5);
        Due.due("age", x.plan(0, 5), 999);
        Due.due("not stale at 999", x.plan(0, 6), 0);
        hit("at 999", x, 0, 5);
        Due.due("age", x.plan(0, 5), 1000);
        Due.due("stale at 1000", x.plan(0, 6), 1);
        miss("at 1000", x, 0, 5);
    }

    // "the questions of all shapes that were asked behind the one by which it was made"
    private static void questionsOfAllShapesAge() {
        KeptPlans x = Due.withSetting(2, 12);
        x.set(3, 12);
        x.ask(0, 5);
        for (int shape = 0; shape < 12; shape++) {
            x.ask(shape, 5);
            Due.due("age", x.plan(0, 5), shape + 1);
        }
        hit("at 12", x, 0, 5);
        miss("at 13", x, 0, 5);
        x.make(1, 0, 1, 0, 9);
        x.table(0, false, 101);
        x.cheapest(0, 5);
        x.ifAsked(0, 5, 0);
        x.ask(0, -1);
        Due.due("other calls are no questions", x.plan(0, 5), 0);
        Due.due("nor refused ones", x.plan(1, 5), 0);
    }

    private static void useDoesNotMakeYoung() {
        KeptPlans x = Due.withSetting(2, 3);
        x.ask(0, 5);
        for (int i = 0; i < 4; i++) {
            Due.due("since it was used", x.plan(0, 9), 0);
            hit("at the age " + i, x, 0, 5);
        }
        miss("at the age 4, though it was used", x, 0, 5);
        x.pin(0, true);
        for (int i = 0; i < 4; i++) {
            x.ask(3, 5);
        }
        miss("at the age 4, though it is pinned", x, 0, 5);
    }
}
