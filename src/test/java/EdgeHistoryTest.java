import java.util.function.Supplier;

/** The edges of the Terms: HISTORY. */
public final class EdgeHistoryTest {
    private static final Supplier<KeptPlans> BUSY = Due::busy;
    private static final Supplier<KeptPlans> NEW = KeptPlans::new;

    public static void main(String[] args) {
        emptyHistory();
        fourStates();
        theOldestIsDropped();
        manyTimesAround();
        undoAtEachPlace();
        whatIsAnAct();
        whatIsNoAct();
        refusedCallsAreNotRecorded();
        emptySnapshot();
        oneSnapshot();
        aStateIsAllButTextHistoryAndSnapshot();
        Due.end();
    }

    private static void emptyHistory() {
        Due.refused(NEW, "undo() of an empty history", KeptPlans::undo, Due.NONE);
        Supplier<KeptPlans> allUndone = () -> {
            KeptPlans x = Due.busy();
            for (int i = 0; i < 4; i++) {
                x.undo();
            }
            return x;
        };
        Due.refused(allUndone, "undo() when all is undone", KeptPlans::undo, Due.NONE);
        Due.act(allUndone, "ask(8, 1) when all is undone", x -> x.ask(8, 1), allUndone.get().ifAsked(8, 1, 0));
    }

    private static KeptPlans acts(int many, String[] told) {
        KeptPlans x = new KeptPlans();
        for (int i = 0; i < many; i++) {
            told[i] = Due.told(x);
            x.table(i % 4, false, 200 + i);
        }
        return x;
    }

    private static void undoAll(KeptPlans x, int many, String[] told) {
        int left = Math.min(many, 4);
        Due.due("states behind " + many + " acts", x.count(15), left);
        for (int i = many - 1; left > 0; i--) {
            left--;
            Due.due("undo()", x.undo(), left);
            Due.due("states", x.count(15), left);
            Due.same("after undo()", Due.told(x), told[i]);
        }
        Due.due("undo()", x.undo(), Due.NONE);
        Due.same("after NONE", Due.told(x), told[Math.max(0, many - 4)]);
    }

    // "A history of at most 4 states is kept"
    private static void fourStates() {
        for (int many = 0; many <= 4; many++) {
            String[] told = new String[20];
            told[0] = Due.told(new KeptPlans());
            undoAll(acts(many, told), many, told);
        }
    }

    // "when one more is recorded, the oldest one is dropped"
    private static void theOldestIsDropped() {
        for (int many = 5; many <= 13; many++) {
            String[] told = new String[20];
            undoAll(acts(many, told), many, told);
        }
    }

    private static void manyTimesAround() {
        String[] told = new String[400];
        undoAll(acts(400, told), 400, told);
    }

    // Wherever the latest state lies, acts and undo() in turns go on from there.
    private static void undoAtEachPlace() {
        for (int many = 0; many <= 9; many++) {
            for (int undone = 0; undone <= 4; undone++) {
                String[] told = new String[20];
                KeptPlans x = acts(many, told);
                int left = Math.min(many, 4);
                for (int i = 0; i < undone; i++) {
                    Due.due("undo()", x.undo(), left == 0 ? Due.NONE : left - 1);
                    left = Math.max(0, left - 1);
                }
                String before = Due.told(x);
                for (int i = 0; i < 5; i++) {
                    x.set(0, 900 + i);
                    Due.due("states", x.count(15), Math.min(4, left + i + 1));
                }
                for (int i = 3; i >= 0; i--) {
                    Due.due("undo()", x.undo(), i);
                    Due.due("the setting", x.count(10), 900 + i);
                }
                Due.due("undo()", x.undo(), Due.NONE);
                x.restore();
                x.set(0, 50);
                Due.same("but for the history", Due.told(x), before);
            }
        }
    }

    // "Each call of a method that is described as an act, and returns no error and not NONE, records"
    private static void whatIsAnAct() {
        Supplier<KeptPlans> fresh = () -> {
            KeptPlans x = Due.withSetting(3, 5);
            x.ask(0, 1);
            Due.write(x, "key 0 1");
            return x;
        };
        for (Supplier<KeptPlans> begin : java.util.List.of(fresh, BUSY)) {
            int rows = begin.get().tableOf(0, 0);
            int keys = begin.get().tableOf(0, 1);
            int kept = begin.get().count(0);
            Due.act(begin, "table(0, false, 77)", x -> x.table(0, false, 77), rows);
            Due.act(begin, "table(0, true, 77)", x -> x.table(0, true, 77), keys);
            Due.act(begin, "ask(0, 1)", x -> x.ask(0, 1), begin.get().ifAsked(0, 1, 0));
            Due.act(begin, "pin(0, true)", x -> x.pin(0, true), begin.get().count(1) + 1);
            Due.act(begin, "throwOut(0)", x -> x.throwOut(0), kept - 1);
            Due.act(begin, "make(0, 2, 1, 0, 1)", x -> x.make(0, 2, 1, 0, 1), kept);
            Due.act(begin, "set(1, 9)", x -> x.set(1, 9), begin.get().count(11));
        }
        Due.act(fresh, "askAll()", KeptPlans::askAll, 10);
        Due.act(BUSY, "restore()", KeptPlans::restore, 2);
        Supplier<KeptPlans> kept = () -> {
            KeptPlans x = fresh.get();
            x.keep();
            return x;
        };
        Due.act(kept, "restore() of what is so already", KeptPlans::restore, 1);
        Supplier<KeptPlans> sameRows = () -> {
            KeptPlans x = fresh.get();
            Due.write(x, "rows 0 100");
            return x;
        };
        Due.act(sameRows, "askAll() that changes nothing", KeptPlans::askAll, 0);
    }

    private static void whatIsNoAct() {
        for (Supplier<KeptPlans> begin : java.util.List.of(NEW, BUSY)) {
            KeptPlans y = begin.get();
            Due.noAct(begin, "type('k')", x -> x.type('k'), y.count(16) + 1);
            Due.noAct(begin, "clearText()", KeptPlans::clearText, y.count(16));
            Due.noAct(begin, "keep()", KeptPlans::keep, y.count(0));
        }
        KeptPlans x = Due.busy();
        x.undo();
        Due.due("undo() records nothing", x.count(15), 3);
        x = new KeptPlans();
        x.keep();
        x.set(0, 1);
        x.undo();
        Due.due("undo() records nothing", x.count(15), 0);
    }

    private static void refusedCallsAreNotRecorded() {
        Due.refused(BUSY, "table: NONE", x -> x.table(0, false, 10), Due.NONE);
        Due.refused(BUSY, "table: NONE", x -> x.table(0, true, 5), Due.NONE);
        Due.refused(BUSY, "table: BAD_VALUE", x -> x.table(0, true, 0), Due.BAD_VALUE);
        Due.refused(BUSY, "pin: NONE", x -> x.pin(9, true), Due.NONE);
        Due.refused(BUSY, "pin: NONE", x -> x.pin(0, false), Due.NONE);
        Due.refused(BUSY, "pin: UNKNOWN", x -> x.pin(2, true), Due.UNKNOWN);
        Due.refused(BUSY, "throwOut: UNKNOWN", x -> x.throwOut(2), Due.UNKNOWN);
        Due.refused(BUSY, "set: NONE", x -> x.set(3, 4), Due.NONE);
        Due.refused(BUSY, "set: BAD_VALUE", x -> x.set(3, 13), Due.BAD_VALUE);
        Due.refused(BUSY, "ask: BAD_VALUE", x -> x.ask(1, 0), Due.BAD_VALUE);
        Supplier<KeptPlans> wrongText = () -> {
            KeptPlans x = Due.busy();
            x.type('x');
            return x;
        };
        Due.refused(wrongText, "askAll: a fault", KeptPlans::askAll, -116);
    }

    // "There is one snapshot, empty at first."
    private static void emptySnapshot() {
        Due.refused(NEW, "restore() without a snapshot", KeptPlans::restore, Due.NONE);
        Supplier<KeptPlans> asked = () -> {
            KeptPlans x = new KeptPlans();
            x.ask(0, 1);
            return x;
        };
        Due.refused(asked, "restore() without a snapshot", KeptPlans::restore, Due.NONE);
        Supplier<KeptPlans> ofNoPlans = () -> {
            KeptPlans x = new KeptPlans();
            x.keep();
            x.ask(0, 1);
            return x;
        };
        Due.act(ofNoPlans, "restore() of a snapshot without plans", KeptPlans::restore, 0);
        KeptPlans x = new KeptPlans();
        x.ask(0, 1);
        x.keep();
        x.undo();
        Due.due("undo() leaves the snapshot", x.restore(), 1);
    }

    private static void oneSnapshot() {
        KeptPlans x = new KeptPlans();
        x.keep();
        x.ask(0, 1);
        x.ask(1, 1);
        x.keep();
        x.ask(2, 1);
        x.undo();
        x.undo();
        x.undo();
        Due.due("the later one", x.restore(), 2);
        Due.due("it stays", x.restore(), 2);
        x.throwOut(0);
        x.throwOut(1);
        Due.due("it stays as it was", x.restore(), 2);
    }

    // "A state is everything but the text, the history and the snapshot."
    private static void aStateIsAllButTextHistoryAndSnapshot() {
        KeptPlans x = Due.busy();
        String before = Due.told(x);
        x.keep();
        Due.write(x, "rows 0 5;keys 1 6;key 0 1;key 2 1;span 3 2;top 3 2");
        x.askAll();
        x.set(0, 1);
        x.set(3, 1);
        x.set(4, 20);
        x.clearText();
        x.type('t');
        x.undo();
        x.undo();
        x.undo();
        Due.due("undo()", x.undo(), 0);
        Due.same("after undo()", Due.told(x), before);
        Due.due("the text is not undone", x.count(16), 1);
        Due.due("nor is it restored", x.restore() >= 0 ? x.count(16) : -1, 1);
        Due.due("nor is the history", x.count(15), 1);
        Due.same("after restore()", Due.told(x), before);
        Due.due("the text", x.askAll(), -101);
    }
}
