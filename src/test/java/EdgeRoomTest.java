import java.util.function.Supplier;

/** The edges of the Terms: PLANS, of want of room and of plans that turn bad. */
public final class EdgeRoomTest {
    public static void main(String[] args) {
        roomForOne();
        roomForAll();
        sixAtFirst();
        oneByOne();
        theOneUsedLongestAgo();
        ofSeveralTheLowestShape();
        pinnedOnesStay();
        allThatAreLeftArePinned();
        onlySomeArePinned();
        noRoomIsNeededForTheSameShape();
        theGuessTimesTheSetting();
        leastAndMostPatience();
        aGuessOfZero();
        pinnedOnesTurnBadToo();
        badOnesAreOutBehindTheQuestion();
        theGuessStays();
        Due.end();
    }

    private static void kept(String when, KeptPlans x, int... shapes) {
        StringBuilder got = new StringBuilder();
        for (int shape = 0; shape < 12; shape++) {
            got.append(x.plan(shape, 0) == Due.UNKNOWN ? "" : " " + shape);
        }
        StringBuilder want = new StringBuilder();
        for (int shape : shapes) {
            want.append(' ').append(shape);
        }
        Due.same("kept " + when, got.toString(), want.toString());
        Due.due("count(0) " + when, x.count(0), shapes.length);
    }

    // "At most as many plans are kept as the setting 3 tells (1 to 12; 6 at first)"
    private static void roomForOne() {
        KeptPlans x = Due.withSetting(3, 1);
        x.ask(5, 1);
        kept("with room for 1", x, 5);
        Due.due("out by the next", x.ifAsked(0, 1, 3), 5);
        Supplier<KeptPlans> full = () -> {
            KeptPlans y = Due.withSetting(3, 1);
            y.ask(5, 1);
            return y;
        };
        Due.act(full, "ask(0, 1) with room for 1", y -> y.ask(0, 1), 60);
        Due.act(full, "make(0, ..) with room for 1", y -> y.make(0, 0, 1, 0, 1), 1);
        x.ask(0, 1);
        kept("with room for 1", x, 0);
        Due.due("thrown out", x.count(9), 1);
        Due.due("make", x.make(11, 0, 1, 0, 1), 1);
        kept("with room for 1", x, 11);
        Due.due("thrown out", x.count(9), 2);
    }

    private static void roomForAll() {
        KeptPlans x = Due.withSetting(3, 12);
        for (int shape = 11; shape >= 0; shape--) {
            Due.due("none is out", x.ifAsked(shape, 1, 3), Due.NONE);
            x.ask(shape, 1);
        }
        kept("with room for 12", x, 0, 1, 2, 3, 4, 5, 6, 7, 8, 9, 10, 11);
        Due.due("thrown out", x.count(9), 0);
        x = Due.withSetting(3, 11);
        for (int shape = 11; shape >= 0; shape--) {
            Due.due("the first is out by the last", x.ifAsked(shape, 1, 3), shape == 0 ? 11 : Due.NONE);
            x.ask(shape, 1);
        }
        kept("with room for 11", x, 0, 1, 2, 3, 4, 5, 6, 7, 8, 9, 10);
        Due.due("thrown out", x.count(9), 1);
    }

    private static void sixAtFirst() {
        KeptPlans x = new KeptPlans();
        for (int shape = 0; shape < 6; shape++) {
            Due.due("none is out", x.ifAsked(shape, 1, 3), Due.NONE);
            x.ask(shape, 1);
        }
        kept("with room for 6", x, 0, 1, 2, 3, 4, 5);
        Due.due("thrown out", x.count(9), 0);
        Due.due("the first is out", x.ifAsked(6, 1, 3), 0);
        x.ask(6, 1);
        kept("with room for 6", x, 1, 2, 3, 4, 5, 6);
        Due.due("thrown out", x.count(9), 1);
    }

    // "plans are thrown out, one by one, until there is room"
    private static void oneByOne() {
        KeptPlans x = new KeptPlans();
        for (int shape = 0; shape < 6; shape++) {
            x.ask(shape, 1);
            x.pin(shape, true);
        }
        x.set(3, 3);
        kept("as all are pinned", x, 0, 1, 2, 3, 4, 5);
        for (int shape = 0; shape < 5; shape++) {
            x.pin(shape, false);
        }
        Due.due("the first of four", x.ifAsked(9, 1, 3), 0);
        x.ask(9, 1);
        kept("when four were thrown out", x, 4, 5, 9);
        Due.due("thrown out", x.count(9), 4);
    }

    // "each time the one that was used or made the longest ago (by questions, as plan(.., 9) tells)"
    private static void theOneUsedLongestAgo() {
        KeptPlans x = Due.withSetting(3, 3);
        x.ask(0, 1);
        x.ask(1, 1);
        x.ask(2, 1);
        Due.due("made 2 questions ago", x.plan(0, 9), 2);
        Due.due("made 1 question ago", x.plan(1, 9), 1);
        Due.due("made by the last question", x.plan(2, 9), 0);
        x.ask(0, 1);
        Due.due("used by the last question", x.plan(0, 9), 0);
        Due.due("the next", x.oldest(), 1);
        x.make(1, 0, 1, 0, 9);
        Due.due("made now", x.plan(1, 9), 0);
        Due.due("the next", x.oldest(), 2);
        x.pin(2, true);
        x.pin(2, false);
        Due.due("a pin is no use", x.plan(2, 9), 1);
        Due.due("the next", x.oldest(), 2);
        x.ask(3, 1);
        kept("with room for 3", x, 0, 1, 3);
    }

    // "of several that of the lowest shape"
    private static void ofSeveralTheLowestShape() {
        KeptPlans x = Due.withSetting(3, 3);
        x.make(11, 0, 1, 0, 9);
        x.make(4, 0, 1, 0, 9);
        x.make(7, 0, 1, 0, 9);
        Due.due("of three", x.oldest(), 4);
        x.ask(0, 1);
        kept("the lowest is out", x, 0, 7, 11);
        Due.due("of two", x.oldest(), 7);
        x.make(7, 0, 1, 0, 9);
        Due.due("the other is older now", x.oldest(), 11);
    }

    // "and is not pinned"
    private static void pinnedOnesStay() {
        KeptPlans x = Due.withSetting(3, 3);
        x.ask(0, 1);
        x.ask(1, 1);
        x.ask(2, 1);
        x.pin(0, true);
        x.pin(1, true);
        x.ask(3, 1);
        kept("but for the one that was not pinned", x, 0, 1, 3);
        x.pin(0, false);
        x.ask(4, 1);
        kept("the oldest is not pinned now", x, 1, 3, 4);
    }

    private static KeptPlans allPinned() {
        KeptPlans x = Due.withSetting(3, 2);
        x.ask(0, 1);
        x.ask(1, 1);
        x.pin(0, true);
        x.pin(1, true);
        return x;
    }

    // "if all that are left are pinned, and there is no room, the new plan is not kept"
    private static void allThatAreLeftArePinned() {
        Supplier<KeptPlans> pinned = EdgeRoomTest::allPinned;
        KeptPlans x = allPinned();
        Due.due("it costs the same", x.ask(6, 1), 60);
        kept("as all are pinned", x, 0, 1);
        Due.due("thrown out", x.count(9), 0);
        Due.due("misses", x.count(5), 3);
        Due.due("reason still", x.reason(6, 1), 1);
        Due.act(pinned, "ask(6, 1)", y -> y.ask(6, 1), 60);
        Due.refused(pinned, "make(6, ..)", y -> y.make(6, 0, 1, 0, 1), Due.NONE);
        Due.tells(pinned, "ifAsked(6, 1, 3)", y -> y.ifAsked(6, 1, 3), Due.NONE);
        Due.tells(pinned, "oldest()", KeptPlans::oldest, Due.NONE);
        x = allPinned();
        x.set(3, 3);
        x.ask(6, 1);
        kept("with room for one more", x, 0, 1, 6);
    }

    private static KeptPlans morePinnedThanRoom() {
        KeptPlans x = new KeptPlans();
        for (int shape = 0; shape < 4; shape++) {
            x.ask(shape, 1);
            x.pin(shape, true);
        }
        x.set(3, 2);
        x.pin(1, false);
        return x;
    }

    // "until there is room .. if all that are left are pinned": the others are out by then
    private static void onlySomeArePinned() {
        Supplier<KeptPlans> pinned = EdgeRoomTest::morePinnedThanRoom;
        Due.tells(pinned, "ifAsked(9, 1, 3)", x -> x.ifAsked(9, 1, 3), 1);
        Due.act(pinned, "ask(9, 1)", x -> x.ask(9, 1), 60);
        Due.refused(pinned, "make(9, ..)", x -> x.make(9, 0, 1, 0, 1), Due.NONE);
        KeptPlans x = morePinnedThanRoom();
        x.ask(9, 1);
        kept("that are pinned", x, 0, 2, 3);
        Due.due("thrown out", x.count(9), 1);
    }

    // "for one more of another shape"
    private static void noRoomIsNeededForTheSameShape() {
        Supplier<KeptPlans> pinned = EdgeRoomTest::allPinned;
        Due.tells(pinned, "ifAsked(0, 9, 3)", x -> x.ifAsked(0, 9, 3), Due.NONE);
        Due.act(pinned, "make(0, ..)", x -> x.make(0, 0, 7, 0, 1), 2);
        KeptPlans x = allPinned();
        x.ask(0, 9);
        kept("with one in place of a pinned one", x, 0, 1);
        Due.due("its number", x.plan(0, 3), 9);
        Due.due("thrown out", x.count(9), 0);
        KeptPlans y = morePinnedThanRoom();
        y.ask(0, 9);
        kept("more than there is room for", y, 0, 1, 2, 3);
        Due.due("make", y.make(1, 0, 9, 0, 9), 4);
        Due.due("thrown out", y.count(9), 0);
    }

    private static KeptPlans guessTen(int patience) {
        KeptPlans x = new KeptPlans();
        x.make(0, 1, 1, 0, 9999);
        x.set(4, patience);
        return x;
    }

    private static void turnsBad(int patience, int number, int price, boolean bad) {
        KeptPlans x = guessTen(patience);
        String call = "a price of " + price + " by the setting " + patience;
        Due.act(() -> guessTen(patience), call, y -> y.ask(0, number), price);
        Due.due(call + ": ifAsked(.., 2)", x.ifAsked(0, number, 2), bad ? 1 : 0);
        Due.due(call, x.ask(0, number), price);
        Due.due(call + ": bad", x.count(8), bad ? 1 : 0);
        Due.due(call + ": kept", x.count(0), bad ? 0 : 1);
        Due.due(call + ": hits", x.count(4), 1);
        Due.due(call + ": for want of room", x.count(9), 0);
    }

    // "if that is more than the setting 4 (1 to 20; 4 at first) times the guess"
    private static void theGuessTimesTheSetting() {
        KeptPlans x = new KeptPlans();
        x.make(0, 1, 1, 0, 9999);
        Due.due("the guess", x.plan(0, 4), 10);
        Due.due("4 at first: a price of 40", x.ifAsked(0, 11, 2), 0);
        Due.due("4 at first: a price of 43", x.ifAsked(0, 12, 2), 1);
        turnsBad(4, 11, 40, false);
        turnsBad(4, 12, 43, true);
        // With the order over the greatest ones a price can be one above: 7 + 1 is the guess.
        x.make(2, 1, 1, 0, 9999);
        Due.due("the guess", x.plan(2, 4), 8);
        Due.due("a price of 32", x.ifAsked(2, 25, 2), 0);
        Due.due("a price of 33", x.ifAsked(2, 26, 2), 1);
    }

    private static void leastAndMostPatience() {
        turnsBad(1, 0, 7, false);
        turnsBad(1, 1, 10, false);
        turnsBad(1, 2, 13, true);
        turnsBad(20, 64, 199, false);
        turnsBad(20, 65, 202, true);
        KeptPlans x = Due.withSetting(4, 20);
        x.make(2, 1, 1, 0, 9999);
        Due.due("a price of 160", x.ifAsked(2, 153, 2), 0);
        Due.due("a price of 161", x.ifAsked(2, 154, 2), 1);
        x.set(4, 1);
        Due.due("a price of 8", x.ifAsked(2, 1, 2), 0);
        Due.due("a price of 9", x.ifAsked(2, 2, 2), 1);
        x.set(4, 19);
        Due.due("a price of 152", x.ifAsked(2, 145, 2), 0);
        Due.due("a price of 153", x.ifAsked(2, 146, 2), 1);
    }

    private static void aGuessOfZero() {
        KeptPlans x = Due.withRows(0, 0);
        x.make(0, 1, 0, 0, 9999);
        Due.due("the guess", x.plan(0, 4), 0);
        Due.due("a price of 0", x.ask(0, 0), 0);
        Due.due("not bad", x.count(8), 0);
        Due.due("a price of 3 may not be", x.ifAsked(0, 1, 2), 1);
        Due.due("a price of 3", x.ask(0, 1), 3);
        Due.due("bad", x.count(8), 1);
        kept("none", x);
    }

    // "it is thrown out behind the question (also if it is pinned)"
    private static void pinnedOnesTurnBadToo() {
        KeptPlans x = guessTen(4);
        x.pin(0, true);
        x.ask(0, 11);
        Due.due("pinned still", x.count(1), 1);
        Due.due("ifAsked(0, 12, 2)", x.ifAsked(0, 12, 2), 1);
        x.ask(0, 12);
        kept("none", x);
        Due.due("pinned ones", x.count(1), 0);
        Due.due("bad", x.count(8), 1);
        x.ask(0, 12);
        Due.due("a new one is not pinned", x.plan(0, 7), 0);
    }

    private static void badOnesAreOutBehindTheQuestion() {
        KeptPlans x = guessTen(4);
        Due.due("the question is answered by the plan", x.ask(0, 40), 127);
        Due.due("looking", x.count(7), 0);
        Due.due("the next one is not", x.reason(0, 40), 1);
        Due.due("a miss never turns bad", x.ifAsked(0, 40, 2), 0);
        Due.due("ask(0, 40)", x.ask(0, 40), 150);
        Due.due("bad", x.count(8), 1);
    }

    // "its guess (the cost by its way for the number for which it was made)"
    private static void theGuessStays() {
        KeptPlans x = guessTen(1);
        x.table(0, false, 128);
        Due.due("the guess, though rows are more", x.plan(0, 4), 10);
        Due.due("one more than the guess", x.ifAsked(0, 1, 2), 1);
        Due.due("ask(0, 1)", x.ask(0, 1), 11);
        Due.due("bad", x.count(8), 1);
    }
}
