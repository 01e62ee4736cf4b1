/** Promise 18: ifAsked. */
public final class Promise18IfAskedTest {
    public static void main(String[] args) {
        KeptPlans x = new KeptPlans();
        asked(x, 0, 5, 72, 1, 0, -4, 50);
        x.ask(0, 5);
        asked(x, 0, 5, 22, 1, 0, -4, 0);
        asked(x, 0, 40, 150, 0, 0, -4, 50);
        x.make(0, 2, 5, 0, 9999);
        asked(x, 0, 5, 200, 2, 0, -4, 178);
        x.make(0, 1, 1, 0, 9999);
        asked(x, 0, 11, 40, 1, 0, -4, 0);
        asked(x, 0, 12, 43, 1, 1, -4, 0);
        asked(x, 0, 40, 127, 1, 1, -4, 27);
        x.set(3, 1);
        asked(x, 3, 5, 72, 1, 0, 0, 50);
        asked(x, 0, 12, 43, 1, 1, -4, 0);
        x.table(0, false, 10);
        asked(x, 0, 12, 60, 0, 0, -4, 50);
        x.pin(0, true);
        asked(x, 3, 5, 72, 1, 0, -4, 50);
        x.set(0, 0);
        asked(x, 3, 5, 22, 1, 0, -4, 0);
        Due.due("no question was asked", x.count(3), 1);
        wantOfRoom();
        wrongOnes(x);
        Due.end();
    }

    private static void asked(KeptPlans x, int shape, int number, int... due) {
        String before = Due.told(x);
        for (int what = 0; what < due.length; what++) {
            String call = "ifAsked(" + shape + ", " + number + ", " + what + ")";
            Due.due(call, x.ifAsked(shape, number, what), due[what]);
        }
        Due.same("after ifAsked", Due.told(x), before);
    }

    private static void wantOfRoom() {
        KeptPlans x = Due.withSetting(3, 4);
        for (int shape = 7; shape > 3; shape--) {
            x.ask(shape, 1);
        }
        Due.due("the oldest", x.ifAsked(0, 1, 3), 7);
        x.ask(7, 1);
        Due.due("the next", x.ifAsked(0, 1, 3), 6);
        Due.due("in place of its own", x.ifAsked(7, 100, 3), -4);
        x.pin(6, true);
        Due.due("not the pinned one", x.ifAsked(0, 1, 3), 5);
        x.set(3, 5);
        Due.due("with room", x.ifAsked(0, 1, 3), -4);
        x.set(3, 4);
        x.pin(5, true);
        x.pin(4, true);
        x.set(3, 2);
        Due.due("kept", x.count(0), 3);
        x.pin(5, false);
        Due.due("too many are pinned, one is not", x.ifAsked(0, 1, 3), 5);
    }

    private static void wrongOnes(KeptPlans x) {
        int states = x.count(15);
        Due.due("ifAsked(-1, 1, 0)", x.ifAsked(-1, 1, 0), -1);
        Due.due("ifAsked(12, -1, 5)", x.ifAsked(12, -1, 5), -1);
        Due.due("ifAsked(0, -1, 0)", x.ifAsked(0, -1, 0), -2);
        Due.due("ifAsked(0, 10000, 0)", x.ifAsked(0, 10000, 0), -2);
        Due.due("ifAsked(1, 0, 0)", x.ifAsked(1, 0, 0), -2);
        Due.due("ifAsked(0, 1, -1)", x.ifAsked(0, 1, -1), -2);
        Due.due("ifAsked(0, 1, 5)", x.ifAsked(0, 1, 5), -2);
        Due.due("no act", x.count(15), states);
    }
}
