/** What the tests share: they say which answers are due, and end with exit code 1 if one was not given. */
final class Due {
    private static int wrong = 0;

    private Due() {
    }

    static void due(String call, long got, long want) {
        if (got != want) {
            wrong++;
            System.out.println(call + " answered " + got + ", due is " + want);
        }
    }

    static void end() {
        System.out.println(wrong == 0 ? "all answers are as due" : wrong + " answers are not as due");
        if (wrong != 0) {
            System.exit(1);
        }
    }

    static void write(KeptPlans x, String text) {
        x.clearText();
        for (int i = 0; i < text.length(); i++) {
            x.type(text.charAt(i));
        }
    }

    static int askAll(KeptPlans x, String text) {
        write(x, text);
        return x.askAll();
    }

    static KeptPlans withSetting(int which, int value) {
        KeptPlans x = new KeptPlans();
        x.set(which, value);
        return x;
    }

    /** All that an object tells of its state, but for the text and the history, as one line. */
    static String told(KeptPlans x) {
        StringBuilder all = new StringBuilder();
        for (int what = 0; what <= 14; what++) {
            all.append(x.count(what)).append(' ');
        }
        for (int table = 0; table < 4; table++) {
            for (int what = 0; what <= 4; what++) {
                all.append(x.tableOf(table, what)).append(' ');
            }
        }
        for (int shape = 0; shape < 12; shape++) {
            for (int what = 0; what <= 10; what++) {
                all.append(x.plan(shape, what)).append(' ');
            }
        }
        return all.toString();
    }

    static void same(String when, String got, String want) {
        if (!got.equals(want)) {
            wrong++;
            System.out.println(when + " tells " + got + ", due is " + want);
        }
    }

    static void other(String when, String got, String before) {
        if (got.equals(before)) {
            wrong++;
            System.out.println(when + " tells the same as before");
        }
    }
}
