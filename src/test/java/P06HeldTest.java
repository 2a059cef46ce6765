/** Promise 6: contents, in the order of their hours. */
public final class P06HeldTest {
    private static final Check CHECK = new Check();

    public static void main(String[] args) {
        contentsFollow();
        hoursOfTheThing();
        wrongInputs();
        full();
        CHECK.end();
    }

    private static void contentsFollow() {
        CleanMatrix x = Check.withThings(3, 3, 2);
        x.need(0, 2, 1);
        x.need(1, 2, 2);
        CHECK.due("held(0, 0, 5)", x.held(0, 0, 5), true);
        CHECK.due("held(0, 1, 8)", x.held(0, 1, 8), true);
        CHECK.due("before both", x.least(0, 2, 4), 0);
        CHECK.due("behind the first", x.least(0, 2, 5), 1);
        CHECK.due("behind the first", x.least(0, 2, 7), 1);
        CHECK.due("behind the second", x.least(0, 2, 8), 2);
        CHECK.due("held(0, 0, 8)", x.held(0, 0, 8), true);
        CHECK.due("of one hour, the one told last", x.least(0, 2, 8), 1);
        CHECK.due("another thing has none", x.least(1, 2, 8), 0);
        CHECK.due("a content ends a cleaning", x.cleaned(0, 3, 9), true);
        CHECK.due("a content ends a cleaning", x.level(0, 9), 3);
        CHECK.due("a content ends a cleaning", x.held(0, 0, 9), true);
        CHECK.due("a content ends a cleaning", x.level(0, 9), 0);
    }

    private static void hoursOfTheThing() {
        CleanMatrix x = Check.withThings(1, 1, 3);
        CHECK.due("held(0, 0, 10)", x.held(0, 0, 10), true);
        CHECK.due("held(0, 0, 9)", x.held(0, 0, 9), false);
        CHECK.due("held(0, 0, 10) again", x.held(0, 0, 10), true);
        x.cleaned(0, 1, 12);
        CHECK.due("below a cleaning", x.held(0, 0, 11), false);
        CHECK.due("at the cleaning's hour", x.held(0, 0, 12), true);
        x.told(0, 0, 15, 20);
        CHECK.due("below a content that was told late", x.held(0, 0, 14), false);
        CHECK.due("below the hour on which it was told, not its own", x.held(0, 0, 15), true);
        CHECK.due("another thing's hours are its own", x.held(1, 0, 0), true);
        CHECK.due("the group's hours do not count", x.joinPipe(0, 2), true);
        CHECK.due("the group's hours do not count", x.held(2, 0, 0), true);
    }

    private static void wrongInputs() {
        CleanMatrix x = Check.withThings(2, 1, 2);
        int[] none = {-1, 2, 32, Integer.MIN_VALUE, Integer.MAX_VALUE};
        for (int number : none) {
            CHECK.due("held(" + number + ", 0, 0)", x.held(number, 0, 0), false);
            CHECK.due("held(0, " + number + ", 0)", x.held(0, number, 0), false);
        }
        long[] noHours = {-1, 1_000_001, Long.MIN_VALUE, Long.MAX_VALUE, 1L << 32};
        for (long hour : noHours) {
            CHECK.due("held(0, 0, " + hour + ")", x.held(0, 0, hour), false);
        }
        CHECK.due("refused contents are not there", x.may(0, 1, 1_000_000), 1);
        CHECK.due("held(0, 0, 0)", x.held(0, 0, 0), true);
        CHECK.due("held(0, 0, 1000000)", x.held(0, 0, 1_000_000), true);
        CHECK.due("held(0, 0, 999999)", x.held(0, 0, 999_999), false);
    }

    private static void full() {
        CleanMatrix x = Check.withThings(2, 1, 2);
        for (int event = 0; event < 200; event++) {
            CHECK.due("event " + event, x.held(event % 2, 0, 7), true);
        }
        CHECK.due("event 200", x.held(0, 1, 7), false);
        CHECK.due("event 200 of another thing", x.held(1, 1, 7), false);
        x.need(0, 0, 0);
        CHECK.due("the refused one is not there", x.may(0, 0, 7), 1);
    }
}
