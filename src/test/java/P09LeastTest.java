/** Promise 9: the cheapest level that is enough. */
public final class P09LeastTest {
    private static final Check CHECK = new Check();

    public static void main(String[] args) {
        cheapest();
        ofAGroup();
        lastingDoesNotCount();
        wrongInputs();
        CHECK.end();
    }

    private static void cheapest() {
        CleanMatrix x = Check.withThings(2, 4, 1);
        x.need(0, 1, 2);
        CHECK.due("no content", x.least(0, 1, 0), 0);
        x.held(0, 0, 1);
        CHECK.due("all cost 0: the least", x.least(0, 1, 1), 2);
        x.cost(2, 7);
        x.cost(3, 6);
        x.cost(4, 6);
        CHECK.due("the cheapest, of these the least", x.least(0, 1, 1), 3);
        x.cost(4, 5);
        CHECK.due("the highest is the cheapest", x.least(0, 1, 1), 4);
        x.cost(1, 0);
        CHECK.due("a level too low is not asked for", x.least(0, 1, 1), 4);
        x.cost(2, 5);
        CHECK.due("as cheap as the highest", x.least(0, 1, 1), 2);
        x.cleaned(0, 1, 2);
        CHECK.due("cleaned too low", x.least(0, 1, 2), 2);
        x.cleaned(0, 2, 3);
        CHECK.due("it may", x.least(0, 1, 3), 0);
        CHECK.due("it may no longer", x.least(0, 1, 27), 2);
        x.need(0, 1, 0);
        CHECK.due("nothing is needed", x.least(0, 1, 27), 0);
        CHECK.due("no kind", x.least(0, 2, 27), 4);
        CHECK.due("no kind", x.least(0, -1, 27), 4);
        CHECK.due("no kind before the content", x.least(0, -1, 0), 0);
    }

    private static void ofAGroup() {
        CleanMatrix x = Check.withThings(3, 4, 3);
        x.need(0, 2, 1);
        x.need(1, 2, 3);
        x.held(0, 0, 0);
        x.held(1, 1, 0);
        CHECK.due("alone", x.least(0, 2, 0), 1);
        x.joinPipe(0, 1);
        CHECK.due("the most that one of the group needs", x.least(0, 2, 0), 3);
        x.cleaned(1, 3, 1);
        CHECK.due("the other is not clean", x.least(1, 2, 1), 3);
        x.cleaned(0, 3, 1);
        CHECK.due("both are clean", x.least(1, 2, 1), 0);
        x.joinPipe(2, 0);
        CHECK.due("a thing that was never cleaned", x.least(1, 2, 1), 3);
    }

    private static void lastingDoesNotCount() {
        CleanMatrix x = Check.withThings(1, 2, 1);
        x.need(0, 0, 1);
        x.hours(1, 0, 0);
        x.held(0, 0, 0);
        CHECK.due("also a level that lasts no hour", x.least(0, 0, 0), 1);
    }

    private static void wrongInputs() {
        CleanMatrix x = Check.withThings(2, 2, 2);
        int[] noThings = {-1, 2, 32, Integer.MIN_VALUE, Integer.MAX_VALUE};
        for (int thing : noThings) {
            CHECK.due("least(" + thing + ", 0, 0)", x.least(thing, 0, 0), CleanMatrix.NONE);
        }
        long[] noHours = {-1, 1_000_001, Long.MIN_VALUE, Long.MAX_VALUE, 1L << 32};
        for (long hour : noHours) {
            CHECK.due("least(0, 0, " + hour + ")", x.least(0, 0, hour), CleanMatrix.NONE);
        }
        CHECK.due("least(1, 0, 1000000)", x.least(1, 0, 1_000_000), 0);
    }
}
