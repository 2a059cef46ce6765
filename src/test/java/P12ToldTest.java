/** Promise 12: contents that are told late. */
public final class P12ToldTest {
    private static final Check CHECK = new Check();

    public static void main(String[] args) {
        takesItsPlace();
        ofOneHourInTheOrderTold();
        onNotBelowEventsInTime();
        wrongInputs();
        full();
        CHECK.end();
    }

    private static void takesItsPlace() {
        CleanMatrix x = Check.withThings(3, 3, 2);
        x.need(0, 2, 1);
        x.need(1, 2, 2);
        x.held(0, 0, 10);
        x.cleaned(0, 3, 20);
        CHECK.due("told(0, 1, 5, 20)", x.told(0, 1, 5, 20), true);
        CHECK.due("before it", x.least(0, 2, 4), 0);
        CHECK.due("from its hour on", x.least(0, 2, 5), 2);
        CHECK.due("another content followed it", x.least(0, 2, 10), 1);
        CHECK.due("the cleaning is behind it", x.level(0, 20), 3);
        CHECK.due("told(0, 1, 15, 20)", x.told(0, 1, 15, 20), true);
        CHECK.due("between content and cleaning", x.least(0, 2, 15), 2);
        CHECK.due("between content and cleaning", x.least(0, 2, 14), 1);
        CHECK.due("the cleaning is behind it", x.level(0, 20), 3);
        CHECK.due("told(0, 1, 21, 40)", x.told(0, 1, 21, 40), true);
        CHECK.due("it is behind the cleaning", x.level(0, 21), 0);
        CHECK.due("the cleaning counts up to it", x.level(0, 20), 3);
        CHECK.due("the other thing has no events", x.may(1, 2, 40), 1);
    }

    private static void ofOneHourInTheOrderTold() {
        CleanMatrix x = Check.withThings(3, 3, 1);
        x.need(0, 2, 1);
        x.need(1, 2, 2);
        x.cleaned(0, 3, 10);
        CHECK.due("told(0, 0, 10, 10)", x.told(0, 0, 10, 10), true);
        CHECK.due("behind the cleaning of its hour", x.level(0, 10), 0);
        CHECK.due("told(0, 1, 10, 12)", x.told(0, 1, 10, 12), true);
        CHECK.due("behind the content of its hour", x.least(0, 2, 10), 2);
        CHECK.due("cleaned(0, 3, 10)", x.cleaned(0, 3, 10), true);
        CHECK.due("a cleaning told behind it", x.level(0, 10), 3);
    }

    private static void onNotBelowEventsInTime() {
        CleanMatrix x = Check.withThings(1, 1, 2);
        x.held(0, 0, 10);
        CHECK.due("on below a content in time", x.told(0, 0, 3, 9), false);
        CHECK.due("on at its hour", x.told(0, 0, 3, 10), true);
        x.cleaned(0, 1, 20);
        CHECK.due("on below a cleaning", x.told(0, 0, 3, 19), false);
        CHECK.due("on at its hour", x.told(0, 0, 3, 20), true);
        CHECK.due("told(0, 0, 50, 60)", x.told(0, 0, 50, 60), true);
        CHECK.due("told(0, 0, 70, 70)", x.told(0, 0, 70, 70), true);
        CHECK.due("on below contents told late", x.told(0, 0, 25, 30), true);
        CHECK.due("on still not below the cleaning", x.told(0, 0, 15, 19), false);
        CHECK.due("the refused one is not there", x.level(0, 20), 1);
        CHECK.due("another thing's events are its own", x.told(1, 0, 3, 4), true);
    }

    private static void wrongInputs() {
        CleanMatrix x = Check.withThings(2, 1, 2);
        int[] none = {-1, 2, 32, Integer.MIN_VALUE, Integer.MAX_VALUE};
        for (int number : none) {
            CHECK.due("told(" + number + ", 0, 0, 0)", x.told(number, 0, 0, 0), false);
            CHECK.due("told(0, " + number + ", 0, 0)", x.told(0, number, 0, 0), false);
        }
        long[] noHours = {-1, 1_000_001, Long.MIN_VALUE, Long.MAX_VALUE, 1L << 32};
        for (long hour : noHours) {
            CHECK.due("told(0, 0, " + hour + ", 5)", x.told(0, 0, hour, 5), false);
            CHECK.due("told(0, 0, 5, " + hour + ")", x.told(0, 0, 5, hour), false);
            CHECK.due("told(0, 0, " + hour + ", " + hour + ")", x.told(0, 0, hour, hour), false);
        }
        CHECK.due("on below the hour", x.told(0, 0, 6, 5), false);
        CHECK.due("refused contents are not there", x.may(0, 0, 1_000_000), 1);
        CHECK.due("told(0, 0, 0, 0)", x.told(0, 0, 0, 0), true);
        CHECK.due("told(0, 0, 1000000, 1000000)", x.told(0, 0, 1_000_000, 1_000_000), true);
        CHECK.due("told(0, 0, 0, 1000000)", x.told(0, 0, 0, 1_000_000), true);
    }

    private static void full() {
        CleanMatrix x = Check.withThings(2, 1, 2);
        for (int event = 0; event < 200; event++) {
            CHECK.due("event " + event, x.told(event % 2, 0, 200 - event, 200), true);
        }
        CHECK.due("event 200", x.told(0, 1, 200, 200), false);
        CHECK.due("event 200 of the other", x.told(1, 1, 200, 200), false);
        CHECK.due("held is full too", x.held(0, 0, 200), false);
        x.need(0, 0, 0);
        CHECK.due("the refused one is not there", x.may(0, 0, 200), 1);
    }
}
