/** Long runs of mixed calls, each answer held against that of PlainModel. */
public final class AgainstModelTest {
    private static final int RUNS = 1500;
    private static final int CALLS = 512;
    private static final int[] ODD = {Integer.MIN_VALUE, -10000, -5, -1, 12, 13, 10000, 100000, Integer.MAX_VALUE};

    // A sequence of its own, so that each run of the test makes the same calls.
    private long seed;

    private AgainstModelTest(int run) {
        seed = 0x9E3779B97F4A7C15L * (run + 1);
    }

    public static void main(String[] args) {
        for (int run = 0; run < RUNS; run++) {
            new AgainstModelTest(run).run(run);
        }
        Due.end();
    }

    private int below(int end) {
        seed = seed * 6364136223846793005L + 1442695040888963407L;
        return (int) ((seed >>> 33) % end);
    }

    private int oddOr(int value) {
        return below(40) == 0 ? ODD[below(ODD.length)] : value;
    }

    private int shape(int style) {
        return oddOr(style % 2 == 0 ? below(12) : below(4));
    }

    private int number() {
        switch (below(6)) {
            case 0: return oddOr(below(3));
            case 1: return oddOr(below(10000));
            case 2: return oddOr(9995 + below(6));
            case 3: return oddOr(below(200));
            default: return oddOr(below(30));
        }
    }

    private int rows() {
        switch (below(5)) {
            case 0: return oddOr(below(4));
            case 1: return oddOr(below(10000));
            default: return oddOr(40 + below(140));
        }
    }

    private void run(int run) {
        KeptPlans x = new KeptPlans();
        PlainModel y = new PlainModel();
        int calls = 0;
        while (calls < CALLS) {
            int what = below(run % 3 == 0 ? 12 : 11);
            if (what == 11) {
                calls += text(run, x, y);
            } else {
                act(run, what, x, y);
                calls++;
            }
            if (below(60) == 0) {
                everything(run, x, y);
            }
        }
        everything(run, x, y);
    }

    private void act(int run, int what, KeptPlans x, PlainModel y) {
        int shape = shape(run);
        int number = number();
        String call = "run " + run + ": call " + what + " of " + shape + ", " + number;
        switch (what) {
            case 0: {
                boolean keys = below(2) == 0;
                int table = oddOr(below(run % 2 == 0 ? 4 : 2));
                int many = keys && below(2) == 0 ? 1 + below(20) : rows();
                Due.due(call, x.table(table, keys, many), y.table(table, keys, many));
                break;
            }
            case 1: {
                boolean pin = below(3) > 0;
                Due.due(call, x.pin(shape, pin), y.pin(shape, pin));
                break;
            }
            case 2: {
                if (below(3) == 0) {
                    Due.due(call, x.throwOut(shape), y.throwOut(shape));
                }
                break;
            }
            case 3: {
                int way = oddOr(below(3));
                int least = below(3) == 0 ? number() : 0;
                int most = below(3) == 0 ? number() : 99999;
                Due.due(call, x.make(shape, way, number, least, most), y.make(shape, way, number, least, most));
                break;
            }
            case 4: {
                int which = oddOr(below(5));
                int value = oddOr(which == 3 ? below(14) : which == 0 ? below(1001) : below(22));
                Due.due(call, x.set(which, value), y.set(which, value));
                break;
            }
            case 5: {
                history(call, x, y);
                break;
            }
            case 6: {
                told(call, shape, number, x, y);
                break;
            }
            default: {
                Due.due(call, x.ask(shape, number), y.ask(shape, number));
            }
        }
    }

    private void history(String call, KeptPlans x, PlainModel y) {
        switch (below(4)) {
            case 0: {
                Due.due(call, x.keep(), y.keep());
                break;
            }
            case 1: {
                Due.due(call, x.restore(), y.restore());
                break;
            }
            default: {
                Due.due(call, x.undo(), y.undo());
            }
        }
    }

    private void told(String call, int shape, int number, KeptPlans x, PlainModel y) {
        int way = oddOr(below(3));
        Due.due(call, x.cost(shape, way, number), y.cost(shape, way, number));
        Due.due(call, x.reach(shape, way), y.reach(shape, way));
        Due.due(call, x.cheapest(shape, number), y.cheapest(shape, number));
        Due.due(call, x.reason(shape, number), y.reason(shape, number));
        for (int what = -1; what <= 5; what++) {
            Due.due(call, x.ifAsked(shape, number, what), y.ifAsked(shape, number, what));
        }
    }

    private void everything(int run, KeptPlans x, PlainModel y) {
        String call = "run " + run + ": all that is told: ";
        for (int what = -1; what <= 17; what++) {
            Due.due(call + "count " + what, x.count(what), y.count(what));
        }
        for (int table = -1; table <= 4; table++) {
            for (int what = -1; what <= 5; what++) {
                Due.due(call + "tableOf " + table + ", " + what, x.tableOf(table, what), y.tableOf(table, what));
            }
        }
        for (int shape = -1; shape <= 12; shape++) {
            for (int what = -1; what <= 11; what++) {
                Due.due(call + "plan " + shape + ", " + what, x.plan(shape, what), y.plan(shape, what));
            }
        }
        Due.due(call + "oldest", x.oldest(), y.oldest());
    }

    private int text(int run, KeptPlans x, PlainModel y) {
        String call = "run " + run + ": the text ";
        if (below(4) > 0) {
            Due.due(call, x.clearText(), y.clearText());
        }
        String text = lines(1 + below(below(3) == 0 ? 10 : 3));
        for (int i = 0; i < text.length(); i++) {
            Due.due(call + text, x.type(text.charAt(i)), y.type(text.charAt(i)));
            if (below(10) == 0) {
                Due.due(call + text, x.askAll(), y.askAll());
            }
        }
        Due.due(call + text, x.askAll(), y.askAll());
        return text.length() + 2;
    }

    private String lines(int many) {
        String[] words = {"key", "span", "top", "rows", "keys"};
        StringBuilder text = new StringBuilder();
        for (int i = 0; i < many; i++) {
            text.append(i == 0 ? "" : ";").append(words[below(5)]).append(' ').append(below(4)).append(' ');
            text.append(below(3) == 0 ? 1 + below(9999) : 1 + below(9));
        }
        if (below(2) == 0) {
            String odd = "keyspantoprows0123456789 ;;x\u0000\u016b";
            text.setCharAt(below(text.length()), odd.charAt(below(odd.length())));
        }
        return text.toString();
    }
}
