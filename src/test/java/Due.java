import java.util.function.Supplier;
import java.util.function.ToIntFunction;

/** What the tests share: they say which answers are due, and end with exit code 1 if one was not given. */
final class Due {
    static final int UNKNOWN = -1;
    static final int BAD_VALUE = -2;
    static final int FULL = -3;
    static final int NONE = -4;
    static final int LOWEST = Integer.MIN_VALUE;
    static final int HIGHEST = Integer.MAX_VALUE;

    private static int wrong = 0;

    private Due() {
    }

    static void due(String call, long got, long want) {
        if (got != want) {
            wrong++;
            System.out.println(call + " answered " + got + ", due is " + want);
        }
    }

    static void end() {
        System.out.println(wrong == 0 ? "all answers are as due" : wrong + " answers are not as due");
        if (wrong != 0) {
            System.exit(1);
        }
    }

    /** A refused call: its answer, and that nothing has changed: what is told, the text, the history, the snapshot. */
    static void refused(Supplier<KeptPlans> begin, String call, ToIntFunction<KeptPlans> made, int want) {
        KeptPlans x = begin.get();
        String before = toldWithLengths(x);
        due(call, made.applyAsInt(x), want);
        same("after " + call, toldWithLengths(x), before);
        same("the text, the history and the snapshot after " + call, hidden(x), hidden(begin.get()));
    }

    /** A call that is taken and is an act: its answer, one more state (of at most 4), and that undo() takes it back. */
    static void act(Supplier<KeptPlans> begin, String call, ToIntFunction<KeptPlans> made, int want) {
        KeptPlans x = begin.get();
        String before = told(x);
        int states = x.count(15);
        due(call, made.applyAsInt(x), want);
        due("states after " + call, x.count(15), Math.min(states + 1, 4));
        due("undo() after " + call, x.undo(), Math.min(states, 3));
        same("after undo() after " + call, told(x), before);
    }

    /** A call that is taken and is no act: its answer, and that what a state holds and the history are as before. */
    static void noAct(Supplier<KeptPlans> begin, String call, ToIntFunction<KeptPlans> made, int want) {
        KeptPlans x = begin.get();
        String before = told(x);
        int states = x.count(15);
        due(call, made.applyAsInt(x), want);
        due("states after " + call, x.count(15), states);
        same("after " + call, told(x), before);
    }

    /** A call that only tells: its answer, and that nothing at all has changed. */
    static void tells(Supplier<KeptPlans> begin, String call, ToIntFunction<KeptPlans> made, int want) {
        refused(begin, call, made, want);
    }

    static void write(KeptPlans x, String text) {
        x.clearText();
        for (int i = 0; i < text.length(); i++) {
            x.type(text.charAt(i));
        }
    }

    static int askAll(KeptPlans x, String text) {
        write(x, text);
        return x.askAll();
    }

    static KeptPlans withSetting(int which, int value) {
        KeptPlans x = new KeptPlans();
        x.set(which, value);
        return x;
    }

    static KeptPlans withRows(int table, int rows) {
        KeptPlans x = new KeptPlans();
        x.table(table, false, rows);
        return x;
    }

    /** An object with nothing in it as it was at first: every account, a full history, a snapshot and a text. */
    static KeptPlans busy() {
        KeptPlans x = new KeptPlans();
        x.set(0, 40);
        x.set(1, 3);
        x.set(2, 9);
        x.set(3, 4);
        x.set(4, 2);
        for (int table = 0; table < 4; table++) {
            x.table(table, false, 60 + 50 * table);
            x.table(table, true, 5 + table);
        }
        x.ask(7, 3);
        x.ask(11, 8);
        x.keep();
        x.ask(0, 2);
        x.ask(1, 2);
        x.ask(3, 4);
        x.ask(0, 3);
        x.make(3, 1, 1, 0, 500);
        x.ask(3, 20);
        x.ask(9, 6);
        x.pin(9, true);
        x.ask(5, 4);
        x.table(0, false, 10);
        write(x, "key 0 1;top 3 12");
        return x;
    }

    /** An object with a full text. */
    static KeptPlans fullText() {
        KeptPlans x = busy();
        write(x, "key 0 10;key 0 1;key 0 1;key 0 1;key 0 1;key 0 1;key 0 1;key 0 1;key 0 1;key 0 1");
        return x;
    }

    /** All that an object tells of its state, but for the text and the history, as one line. */
    static String told(KeptPlans x) {
        StringBuilder all = new StringBuilder();
        for (int what = 0; what <= 14; what++) {
            all.append(x.count(what)).append(' ');
        }
        for (int table = 0; table < 4; table++) {
            for (int what = 0; what <= 4; what++) {
                all.append(x.tableOf(table, what)).append(' ');
            }
        }
        for (int shape = 0; shape < 12; shape++) {
            for (int what = 0; what <= 10; what++) {
                all.append(x.plan(shape, what)).append(' ');
            }
        }
        return all.toString();
    }

    static String toldWithLengths(KeptPlans x) {
        return told(x) + x.count(15) + " " + x.count(16) + " " + x.oldest();
    }

    /** What only later calls show: the states of the history, the snapshot and the text. It changes the object. */
    private static String hidden(KeptPlans x) {
        StringBuilder all = new StringBuilder();
        for (int i = 0; i < 5; i++) {
            all.append(x.undo()).append(": ").append(told(x)).append('\n');
        }
        all.append(x.restore()).append(": ").append(told(x)).append('\n');
        all.append(x.askAll()).append(": ").append(told(x)).append('\n');
        return all.append(x.clearText()).toString();
    }

    static void same(String when, String got, String want) {
        if (!got.equals(want)) {
            wrong++;
            System.out.println(when + " tells " + got + ", due is " + want);
        }
    }
}
