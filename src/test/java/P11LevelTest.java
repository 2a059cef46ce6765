/** Promise 11: the level of a group at an hour. */
public final class P11LevelTest {
    private static final Check CHECK = new Check();

    public static void main(String[] args) {
        everyCleaningCounts();
        aHigherLevelMayLastLonger();
        contentsEndCleanings();
        leastOfTheGroup();
        wrongInputs();
        CHECK.end();
    }

    private static void everyCleaningCounts() {
        CleanMatrix x = Check.withThings(1, 3, 1);
        x.hours(1, 0, 10);
        x.hours(2, 0, 6);
        x.hours(3, 0, 3);
        x.cleaned(0, 3, 0);
        x.cleaned(0, 1, 2);
        x.cleaned(0, 2, 4);
        int[] due = {3, 3, 3, 2, 2, 2, 2, 2, 2, 2, 1, 1, 1, 1, 0};
        for (int hour = 0; hour < due.length; hour++) {
            CHECK.due("level(0, " + hour + ")", x.level(0, hour), due[hour]);
        }
    }

    private static void aHigherLevelMayLastLonger() {
        CleanMatrix x = Check.withThings(1, 3, 1);
        x.hours(1, 0, 2);
        x.hours(2, 0, 0);
        x.hours(3, 0, 4);
        x.cleaned(0, 3, 0);
        CHECK.due("3 hours", x.level(0, 3), 3);
        CHECK.due("4 hours", x.level(0, 4), 0);
        x.cleaned(0, 2, 5);
        CHECK.due("level 2 lasts no hour, but level 1 does", x.level(0, 5), 1);
        CHECK.due("2 hours", x.level(0, 7), 0);
    }

    private static void contentsEndCleanings() {
        CleanMatrix x = Check.withThings(1, 2, 1);
        x.cleaned(0, 2, 0);
        x.held(0, 0, 1);
        x.cleaned(0, 1, 1);
        CHECK.due("before the content", x.level(0, 0), 2);
        CHECK.due("behind it only the lower one counts", x.level(0, 1), 1);
    }

    private static void leastOfTheGroup() {
        CleanMatrix x = Check.withThings(1, 9, 3);
        x.hours(4, 1, 1);
        x.cleaned(0, 9, 0);
        x.cleaned(1, 4, 0);
        x.cleaned(2, 7, 0);
        CHECK.due("alone", x.level(0, 0), 9);
        x.joinPipe(0, 2);
        CHECK.due("joined", x.level(0, 0), 7);
        CHECK.due("joined", x.level(2, 0), 7);
        CHECK.due("alone", x.level(1, 1), 4);
        x.joinPipe(0, 1);
        CHECK.due("all joined", x.level(2, 0), 4);
        CHECK.due("level 4 of a joined thing lasts one hour", x.level(2, 1), 3);
    }

    private static void wrongInputs() {
        CleanMatrix x = Check.withThings(1, 2, 2);
        x.cleaned(0, 2, 1_000_000);
        x.cleaned(1, 2, 0);
        int[] noThings = {-1, 2, 32, Integer.MIN_VALUE, Integer.MAX_VALUE};
        for (int thing : noThings) {
            CHECK.due("level(" + thing + ", 0)", x.level(thing, 0), CleanMatrix.NONE);
        }
        long[] noHours = {-1, 1_000_001, Long.MIN_VALUE, Long.MAX_VALUE, 1L << 32};
        for (long hour : noHours) {
            CHECK.due("level(0, " + hour + ")", x.level(0, hour), CleanMatrix.NONE);
        }
        CHECK.due("the last hour", x.level(0, 1_000_000), 2);
        CHECK.due("the first hour", x.level(1, 0), 2);
    }
}
