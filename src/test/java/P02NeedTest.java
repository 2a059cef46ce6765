/** Promise 2: needs are told for a pair of kinds, in their order. */
public final class P02NeedTest {
    public static void main(String[] args) {
        Check check = new Check();
        CleanMatrix x = Check.withThings(3, 4, 1);
        x.held(0, 1, 5);
        check.due("untold", x.least(0, 2, 5), 4);
        check.due("need(1, 2, 3)", x.need(1, 2, 3), true);
        check.due("told", x.least(0, 2, 5), 3);
        check.due("need(2, 1, 1)", x.need(2, 1, 1), true);
        check.due("the other way round is another", x.least(0, 2, 5), 3);
        check.due("another pair is untold", x.least(0, 0, 5), 4);
        check.due("need(1, 2, 2)", x.need(1, 2, 2), true);
        check.due("told anew", x.least(0, 2, 5), 2);
        check.due("need(1, 2, 0)", x.need(1, 2, 0), true);
        check.due("none is needed", x.may(0, 2, 5), 1);
        check.due("need(1, 2, 4)", x.need(1, 2, 4), true);
        check.due("the highest", x.least(0, 2, 5), 4);
        check.due("need(1, 1, 1)", x.need(1, 1, 1), true);
        check.due("a kind behind itself", x.least(0, 1, 5), 1);

        int[] noKinds = {-1, 3, Integer.MIN_VALUE, Integer.MAX_VALUE};
        for (int kind : noKinds) {
            check.due("need(" + kind + ", 1, 1)", x.need(kind, 1, 1), false);
            check.due("need(1, " + kind + ", 1)", x.need(1, kind, 1), false);
            check.due("no kind needs the highest: " + kind, x.least(0, kind, 5), 4);
        }
        int[] noLevels = {-1, 5, Integer.MIN_VALUE, Integer.MAX_VALUE};
        for (int level : noLevels) {
            check.due("need(1, 2, " + level + ")", x.need(1, 2, level), false);
        }
        check.due("a refused need changes nothing", x.least(0, 2, 5), 4);
        check.due("need(2, 2, 4)", x.need(2, 2, 4), true);
        check.due("need(0, 0, 0)", x.need(0, 0, 0), true);
        check.end();
    }
}
