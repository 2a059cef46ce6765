/** Promise 10: what levels cost. */
public final class P10CostTest {
    public static void main(String[] args) {
        Check check = new Check();
        CleanMatrix x = Check.withThings(1, 3, 1);
        x.need(0, 0, 1);
        x.held(0, 0, 0);
        check.due("untold, all cost 0", x.least(0, 0, 0), 1);
        check.due("cost(1, 1)", x.cost(1, 1), true);
        check.due("one that was not told costs 0", x.least(0, 0, 0), 2);
        check.due("cost(2, 1000000)", x.cost(2, 1_000_000), true);
        check.due("cost(3, 999999)", x.cost(3, 999_999), true);
        check.due("cost(1, 1000000)", x.cost(1, 1_000_000), true);
        check.due("the cheapest", x.least(0, 0, 0), 3);
        check.due("cost(2, 0)", x.cost(2, 0), true);
        check.due("told anew", x.least(0, 0, 0), 2);

        int[] noLevels = {0, -1, 4, Integer.MIN_VALUE, Integer.MAX_VALUE};
        for (int level : noLevels) {
            check.due("cost(" + level + ", 1)", x.cost(level, 1), false);
        }
        long[] noCents = {-1, 1_000_001, Long.MIN_VALUE, Long.MAX_VALUE, 1L << 32};
        for (long cents : noCents) {
            check.due("cost(3, " + cents + ")", x.cost(3, cents), false);
            check.due("cost(2, " + cents + ")", x.cost(2, cents), false);
        }
        check.due("refused costs change nothing", x.least(0, 0, 0), 2);
        x.cost(2, 1_000_000);
        check.due("refused costs change nothing", x.least(0, 0, 0), 3);
        check.end();
    }
}
