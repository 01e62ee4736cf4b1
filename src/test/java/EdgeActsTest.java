import java.util.function.Supplier;

/** The edges of the promises 2 to 13, beside those of the Terms. */
public final class EdgeActsTest {
    private static final Supplier<KeptPlans> BUSY = Due::busy;
    private static final Supplier<KeptPlans> NEW = KeptPlans::new;
    private static final int[] LEAST = {0, 1, 1, 1, 1};
    private static final int[] MOST = {999, 20, 999, 12, 20};
    private static final int[] FIRST = {50, 2, 20, 6, 4};

    public static void main(String[] args) {
        tablesThatAreSoAlready();
        pinsFromNoneToAll();
        throwOutDownToNone();
        leastOfPlansByHand();
        mostOfPlansByHand();
        madeAsByAQuestionNow();
        handMadePlansAndRoom();
        rangesOfSettings();
        roomThatIsAsLargeAsNeeded();
        roomThatIsTooSmall();
        roomWithPinnedPlans();
        otherSettingsThrowNothingOut();
        anyCharacter();
        textsOfAllLengths();
        keepOfNoneAndOfAll();
        restoreOfNoneAndOfAll();
        askAllIsOneAct();
        Due.end();
    }

    // Promise 2: "Returns how many there were; .. NONE if it is so already."
    private static void tablesThatAreSoAlready() {
        for (int rows : new int[] {0, 1, 9999}) {
            Supplier<KeptPlans> begin = () -> Due.withRows(2, rows);
            Due.refused(begin, "rows " + rows + " again", x -> x.table(2, false, rows), Due.NONE);
            Due.act(begin, "rows 50", x -> x.table(2, false, 50), rows);
        }
        for (int keys : new int[] {1, 2, 9999}) {
            Supplier<KeptPlans> begin = () -> {
                KeptPlans x = new KeptPlans();
                x.table(2, true, keys);
                return x;
            };
            Due.refused(begin, "keys " + keys + " again", x -> x.table(2, true, keys), Due.NONE);
            Due.act(begin, "keys 50", x -> x.table(2, true, 50), keys);
        }
        Due.refused(NEW, "rows 100 at first", x -> x.table(0, false, 100), Due.NONE);
        Due.refused(NEW, "keys 10 at first", x -> x.table(0, true, 10), Due.NONE);
        Due.act(NEW, "10 rows are not 10 keys", x -> x.table(0, false, 10), 100);
        Due.act(NEW, "100 keys are not 100 rows", x -> x.table(0, true, 100), 10);
    }

    private static KeptPlans allKept() {
        KeptPlans x = Due.withSetting(3, 12);
        for (int shape = 0; shape < 12; shape++) {
            x.ask(shape, 1);
        }
        return x;
    }

    // Promise 5: "Returns how many are pinned then; .. NONE if it is so already."
    private static void pinsFromNoneToAll() {
        Due.refused(NEW, "pin(0, true) without plans", x -> x.pin(0, true), Due.UNKNOWN);
        Due.refused(NEW, "pin(0, false) without plans", x -> x.pin(0, false), Due.UNKNOWN);
        KeptPlans x = allKept();
        for (int shape = 0; shape < 12; shape++) {
            Due.due("pin: NONE", x.pin(shape, false), Due.NONE);
            Due.due("pin", x.pin(shape, true), shape + 1);
            Due.due("pin: NONE", x.pin(shape, true), Due.NONE);
            Due.due("pinned", x.count(1), shape + 1);
        }
        for (int shape = 11; shape >= 0; shape--) {
            Due.due("pin", x.pin(shape, false), shape);
            Due.due("pinned", x.count(1), shape);
        }
    }

    // Promise 6: "Returns how many are kept then"
    private static void throwOutDownToNone() {
        Due.refused(NEW, "throwOut(0) without plans", x -> x.throwOut(0), Due.UNKNOWN);
        KeptPlans x = allKept();
        for (int shape = 0; shape < 12; shape++) {
            x.pin(shape, shape % 2 == 0);
            Due.due("throwOut", x.throwOut(shape), 11 - shape);
            Due.due("kept", x.count(0), 11 - shape);
            Due.due("throwOut again", x.throwOut(shape), Due.UNKNOWN);
        }
        Due.due("pinned", x.count(1), 0);
        Due.due("not for want of room", x.count(9), 0);
        Due.due("nor bad", x.count(8), 0);
    }

    // Promise 7: "0 to 9999: the least number for which it is used"
    private static void leastOfPlansByHand() {
        for (int least : new int[] {0, 1, 9998, 9999}) {
            String call = "make(0, 0, 5, " + least + ", 99999)";
            Due.act(NEW, call, x -> x.make(0, 0, 5, least, 99999), 1);
            KeptPlans x = new KeptPlans();
            x.make(0, 0, 5, least, 99999);
            Due.due(call + ": the least", x.plan(0, 1), least);
        }
        for (int least : new int[] {-1, 10000, 99999, Due.LOWEST, Due.HIGHEST}) {
            String call = "make(0, 0, 5, " + least + ", 99999)";
            Due.refused(BUSY, call, x -> x.make(0, 0, 5, least, 99999), Due.BAD_VALUE);
        }
        // The kinds 1 and 2 have no number 0, but a plan of theirs may have the bound.
        Due.act(NEW, "make(1, 0, 5, 0, 0)", x -> x.make(1, 0, 5, 0, 0), 1);
        Due.act(NEW, "make(2, 0, 5, 0, 0)", x -> x.make(2, 0, 5, 0, 0), 1);
    }

    // "least to 99999"
    private static void mostOfPlansByHand() {
        for (int most : new int[] {7, 8, 9999, 10000, 99998, 99999}) {
            String call = "make(0, 0, 5, 7, " + most + ")";
            Due.act(NEW, call, x -> x.make(0, 0, 5, 7, most), 1);
            KeptPlans x = new KeptPlans();
            x.make(0, 0, 5, 7, most);
            Due.due(call + ": the most", x.plan(0, 2), most);
        }
        for (int most : new int[] {6, 0, -1, 100000, Due.LOWEST, Due.HIGHEST}) {
            String call = "make(0, 0, 5, 7, " + most + ")";
            Due.refused(BUSY, call, x -> x.make(0, 0, 5, 7, most), Due.BAD_VALUE);
        }
        Due.act(NEW, "make(0, 0, 5, 0, 0)", x -> x.make(0, 0, 5, 0, 0), 1);
        Due.act(NEW, "make(0, 0, 5, 9999, 9999)", x -> x.make(0, 0, 5, 9999, 9999), 1);
        Due.refused(NEW, "make(0, 0, 5, 9999, 9998)", x -> x.make(0, 0, 5, 9999, 9998), Due.BAD_VALUE);
        Due.refused(NEW, "make(0, 0, 5, 0, -1)", x -> x.make(0, 0, 5, 0, -1), Due.BAD_VALUE);
    }

    // "in place of one that was, as it were made by a question with a number now; it is not pinned"
    private static void madeAsByAQuestionNow() {
        KeptPlans x = new KeptPlans();
        x.ask(0, 5);
        x.ask(0, 5);
        x.pin(0, true);
        x.table(0, false, 120);
        Due.due("make", x.make(0, 0, 9, 1, 2), 1);
        int[] due = {0, 1, 2, 9, 120, 0, 0, 0, 0, 0, 120};
        for (int what = 0; what <= 10; what++) {
            Due.due("plan(0, " + what + ")", x.plan(0, what), due[what]);
        }
        int[] accounts = {1, 0, 0, 2, 1, 1, 94, 50, 0, 0};
        for (int what = 0; what <= 9; what++) {
            Due.due("count(" + what + ")", x.count(what), accounts[what]);
        }
        Due.due("questions about the table", x.tableOf(0, 3), 2);
        Due.due("what these cost", x.tableOf(0, 4), 94);
    }

    private static void handMadePlansAndRoom() {
        KeptPlans x = Due.withSetting(3, 2);
        Due.due("make: the first", x.make(3, 0, 1, 0, 9), 1);
        Due.due("make: the second", x.make(1, 0, 1, 0, 9), 2);
        Due.due("make: the third", x.make(2, 0, 1, 0, 9), 2);
        Due.due("the lowest of the oldest is out", x.plan(1, 0), Due.UNKNOWN);
        Due.due("for want of room", x.count(9), 1);
        Due.due("make: one of the same shape", x.make(3, 1, 1, 0, 9), 2);
        Due.due("for want of room", x.count(9), 1);
        x.pin(2, true);
        Due.due("make: one is pinned", x.make(11, 0, 1, 0, 9), 2);
        Due.due("the other one is out", x.plan(3, 0), Due.UNKNOWN);
        x.pin(11, true);
        Due.due("make: all are pinned", x.make(0, 0, 1, 0, 9), Due.NONE);
        Due.due("make: in place of a pinned one", x.make(11, 1, 1, 0, 9), 2);
        Due.due("it is not pinned then", x.plan(11, 7), 0);
        Due.due("make: one is not pinned", x.make(0, 0, 1, 0, 9), 2);
    }

    // Promise 8: "in its range"
    private static void rangesOfSettings() {
        for (int i = 0; i <= 4; i++) {
            int which = i;
            int least = LEAST[which];
            int most = MOST[which];
            int first = FIRST[which];
            Due.due("at first", new KeptPlans().count(10 + which), first);
            Due.refused(NEW, "set(" + which + ") to what it is", x -> x.set(which, first), Due.NONE);
            // 3 is in place of 2, as the setting 1 is 2 at first.
            for (int value : new int[] {least, which == 1 ? 3 : least + 1, most - 1, most}) {
                String call = "set(" + which + ", " + value + ")";
                Due.act(NEW, call, x -> x.set(which, value), first);
                Supplier<KeptPlans> set = () -> Due.withSetting(which, value);
                Due.refused(set, call + " again", x -> x.set(which, value), Due.NONE);
                Due.act(set, call + " back", x -> x.set(which, first), value);
                for (int other = 0; other <= 4; other++) {
                    int due = other == which ? value : FIRST[other];
                    Due.due(call + ": the setting " + other, set.get().count(10 + other), due);
                }
            }
            for (int value : new int[] {least - 1, most + 1, Due.LOWEST, Due.HIGHEST}) {
                String call = "set(" + which + ", " + value + ")";
                Due.refused(BUSY, call, x -> x.set(which, value), Due.BAD_VALUE);
            }
        }
    }

    // "if it is the setting 3, and more plans are kept than it tells then"
    private static void roomThatIsAsLargeAsNeeded() {
        for (int value : new int[] {12, 7, 5, 4}) {
            KeptPlans x = new KeptPlans();
            for (int shape = 0; shape < 4; shape++) {
                x.ask(shape, 1);
            }
            Due.due("set(3, " + value + ")", x.set(3, value), 6);
            Due.due("kept", x.count(0), 4);
            Due.due("thrown out", x.count(9), 0);
        }
    }

    private static void roomThatIsTooSmall() {
        for (int value = 11; value >= 1; value--) {
            KeptPlans x = allKept();
            x.ask(0, 1);
            Due.due("set(3, " + value + ")", x.set(3, value), 12);
            Due.due("kept", x.count(0), value);
            Due.due("for want of room", x.count(9), 12 - value);
            Due.due("the one used last stays", x.reason(0, 1), 0);
            Due.due("the lowest of the others is out", x.plan(1, 0), Due.UNKNOWN);
            Due.due("the youngest of them", x.plan(11, 0) == Due.UNKNOWN ? 1 : 0, value == 1 ? 1 : 0);
        }
    }

    // "as long as there are too many, and some that are not pinned"
    private static void roomWithPinnedPlans() {
        KeptPlans x = allKept();
        for (int shape = 0; shape < 12; shape++) {
            x.pin(shape, shape != 4 && shape != 7);
        }
        Supplier<KeptPlans> begin = () -> {
            KeptPlans y = allKept();
            for (int shape = 0; shape < 12; shape++) {
                y.pin(shape, true);
            }
            return y;
        };
        Due.act(begin, "set(3, 1) when all are pinned", y -> y.set(3, 1), 12);
        Due.due("set(3, 11)", x.set(3, 11), 12);
        Due.due("the older one is out", x.plan(4, 0), Due.UNKNOWN);
        Due.due("the other is not", x.count(0), 11);
        Due.due("set(3, 2)", x.set(3, 2), 11);
        Due.due("pinned ones stay", x.count(0), 10);
        Due.due("all of them are", x.count(1), 10);
        Due.due("for want of room", x.count(9), 2);
        x.pin(0, false);
        Due.due("none is thrown out by pin()", x.count(0), 10);
        Due.due("set(3, 9)", x.set(3, 9), 2);
        Due.due("nor by a greater setting than needed", x.count(0), 9);
        Due.due("set(3, 10)", x.set(3, 10), 9);
        Due.due("kept", x.count(0), 9);
    }

    // "(other settings throw nothing out)"
    private static void otherSettingsThrowNothingOut() {
        for (int which : new int[] {0, 1, 2, 4}) {
            for (int value : new int[] {LEAST[which], MOST[which]}) {
                KeptPlans x = allKept();
                x.set(which, value);
                Due.due("kept", x.count(0), 12);
                Due.due("thrown out", x.count(9), 0);
                Due.due("bad", x.count(8), 0);
            }
        }
    }

    // Promise 9: "any character"
    private static void anyCharacter() {
        int length = 0;
        KeptPlans x = new KeptPlans();
        for (int sign : new int[] {0, 1, 31, 32, 127, 128, 255, 256, 32767, 32768, 55296, 56320, 65534, 65535}) {
            Due.noAct(BUSY, "type(" + sign + ")", y -> y.type((char) sign), 17);
            length++;
            Due.due("type(" + sign + ")", x.type((char) sign), length);
        }
        Due.due("length", x.count(16), length);
        Due.due("askAll()", x.askAll(), -100);
    }

    // Promise 10: "Returns the length that it had."
    private static void textsOfAllLengths() {
        KeptPlans x = new KeptPlans();
        for (int length = 0; length <= 80; length++) {
            for (int i = 0; i < length; i++) {
                x.type('z');
            }
            Due.due("clearText()", x.clearText(), length);
            Due.due("clearText() again", x.clearText(), 0);
            Due.due("length", x.count(16), 0);
        }
    }

    // Promise 12: "Returns how many plans are kept."
    private static void keepOfNoneAndOfAll() {
        Due.noAct(NEW, "keep() without plans", KeptPlans::keep, 0);
        Due.noAct(EdgeActsTest::allKept, "keep() of 12 plans", KeptPlans::keep, 12);
        KeptPlans x = Due.busy();
        Due.due("keep()", x.keep(), x.count(0));
        Due.due("keep() again", x.keep(), x.count(0));
    }

    // Promise 13: "Returns how many plans are kept then; NONE if there is no snapshot."
    private static void restoreOfNoneAndOfAll() {
        Due.refused(NEW, "restore() without a snapshot", KeptPlans::restore, Due.NONE);
        Due.refused(EdgeActsTest::allKept, "restore() without a snapshot", KeptPlans::restore, Due.NONE);
        Supplier<KeptPlans> none = () -> {
            KeptPlans x = new KeptPlans();
            x.keep();
            x.set(3, 12);
            for (int shape = 0; shape < 12; shape++) {
                x.ask(shape, 1);
            }
            return x;
        };
        Due.act(none, "restore() of no plans", KeptPlans::restore, 0);
        Supplier<KeptPlans> all = () -> {
            KeptPlans x = allKept();
            x.keep();
            x.set(3, 1);
            x.throwOut(11);
            return x;
        };
        Due.act(all, "restore() of 12 plans", KeptPlans::restore, 12);
        KeptPlans x = all.get();
        String kept = Due.told(allKept());
        x.restore();
        Due.same("after restore()", Due.told(x), kept);
        x.undo();
        x.restore();
        Due.same("after restore() again", Due.told(x), kept);
    }

    // Promise 4: "This is one act." "Asks all questions of the text, which stays"
    private static void askAllIsOneAct() {
        KeptPlans x = new KeptPlans();
        String before = Due.told(x);
        Due.due("askAll()", Due.askAll(x, "key 0 1;key 0 2;span 1 1;rows 0 7;top 2 3;keys 3 4"), 60 + 13 + 87 + 60);
        Due.due("states", x.count(15), 1);
        Due.due("the text stays", x.count(16), 50);
        Due.due("rows", x.tableOf(0, 0), 7);
        Due.due("undo()", x.undo(), 0);
        Due.same("after undo()", Due.told(x), before);
        Due.due("the text stays", x.askAll(), 220);
        // One after the other: the second question meets the rows that stand ahead of it, and its own plan.
        x = new KeptPlans();
        Due.due("askAll()", Due.askAll(x, "rows 0 0;key 0 3;rows 0 1;key 0 3;key 0 3"), 50 + 51 + 1);
        Due.due("hits", x.count(4), 1);
        Due.due("misses", x.count(5), 2);
    }
}
