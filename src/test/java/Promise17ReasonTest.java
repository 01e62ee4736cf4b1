/** Promise 17: reason. */
public final class Promise17ReasonTest {
    public static void main(String[] args) {
        KeptPlans x = new KeptPlans();
        Due.due("none", x.reason(3, 5), 1);
        x.make(3, 1, 5, 3, 8);
        Due.due("reason(3, 2)", x.reason(3, 2), 2);
        Due.due("reason(3, 3)", x.reason(3, 3), 0);
        Due.due("reason(3, 8)", x.reason(3, 8), 0);
        Due.due("reason(3, 9)", x.reason(3, 9), 3);
        Due.due("reason(4, 5)", x.reason(4, 5), 1);
        x.set(2, 1);
        x.ask(0, 1);
        Due.due("of the age 1", x.reason(3, 5), 0);
        x.ask(0, 1);
        Due.due("of the age 2", x.reason(3, 5), 5);
        Due.due("below first", x.reason(3, 2), 2);
        Due.due("above first", x.reason(3, 9), 3);
        x.table(1, false, 151);
        Due.due("rows first", x.reason(3, 5), 4);
        Due.due("below first", x.reason(3, 2), 2);
        Due.due("above first", x.reason(3, 9), 3);
        x.set(2, 2);
        Due.due("rows alone", x.reason(3, 5), 4);
        x.table(1, false, 150);
        Due.due("none of them", x.reason(3, 5), 0);
        int states = x.count(15);
        Due.due("reason(-1, 1)", x.reason(-1, 1), -1);
        Due.due("reason(12, -1)", x.reason(12, -1), -1);
        Due.due("reason(0, -1)", x.reason(0, -1), -2);
        Due.due("reason(0, 10000)", x.reason(0, 10000), -2);
        Due.due("reason(4, 0)", x.reason(4, 0), -2);
        Due.due("reason(5, 0)", x.reason(5, 0), -2);
        Due.due("no act", x.count(15), states);
        Due.end();
    }
}
