/** Promise 7: cleanings, in the order of their hours. */
public final class P07CleanedTest {
    private static final Check CHECK = new Check();

    public static void main(String[] args) {
        hoursOfTheThing();
        wrongInputs();
        full();
        refusedAreNotCounted();
        CHECK.end();
    }

    private static void hoursOfTheThing() {
        CleanMatrix x = Check.withThings(1, 2, 2);
        CHECK.due("cleaned(0, 2, 10)", x.cleaned(0, 2, 10), true);
        CHECK.due("before it", x.level(0, 9), 0);
        CHECK.due("at its hour", x.level(0, 10), 2);
        CHECK.due("cleaned(0, 1, 9)", x.cleaned(0, 1, 9), false);
        CHECK.due("cleaned(0, 1, 10)", x.cleaned(0, 1, 10), true);
        x.held(0, 0, 12);
        CHECK.due("below a content", x.cleaned(0, 1, 11), false);
        CHECK.due("at the content's hour", x.cleaned(0, 1, 12), true);
        CHECK.due("behind the content", x.level(0, 12), 1);
        x.told(0, 0, 15, 20);
        CHECK.due("below a content that was told late", x.cleaned(0, 1, 14), false);
        CHECK.due("below the hour on which it was told, not its own", x.cleaned(0, 1, 15), true);
        CHECK.due("another thing's hours are its own", x.cleaned(1, 1, 0), true);
    }

    private static void wrongInputs() {
        CleanMatrix x = Check.withThings(1, 3, 2);
        int[] noThings = {-1, 2, 32, Integer.MIN_VALUE, Integer.MAX_VALUE};
        for (int thing : noThings) {
            CHECK.due("cleaned(" + thing + ", 1, 0)", x.cleaned(thing, 1, 0), false);
        }
        int[] noLevels = {0, -1, 4, Integer.MIN_VALUE, Integer.MAX_VALUE};
        for (int level : noLevels) {
            CHECK.due("cleaned(0, " + level + ", 0)", x.cleaned(0, level, 0), false);
        }
        long[] noHours = {-1, 1_000_001, Long.MIN_VALUE, Long.MAX_VALUE, 1L << 32};
        for (long hour : noHours) {
            CHECK.due("cleaned(0, 1, " + hour + ")", x.cleaned(0, 1, hour), false);
        }
        CHECK.due("refused cleanings are not there", x.level(0, 0), 0);
        CHECK.due("cleaned(0, 3, 0)", x.cleaned(0, 3, 0), true);
        CHECK.due("cleaned(0, 3, 1000000)", x.cleaned(0, 3, 1_000_000), true);
        CHECK.due("at the last hour", x.level(0, 1_000_000), 3);
    }

    private static void full() {
        CleanMatrix x = Check.withThings(1, 2, 3);
        for (int event = 0; event < 199; event++) {
            CHECK.due("event " + event, x.cleaned(event % 3, 1, event), true);
        }
        CHECK.due("event 199", x.told(0, 0, 0, 300), true);
        CHECK.due("event 200", x.cleaned(0, 2, 300), false);
        CHECK.due("event 200 of another thing", x.cleaned(1, 2, 300), false);
        CHECK.due("the refused one is not there", x.level(0, 300), 0);
    }

    private static void refusedAreNotCounted() {
        CleanMatrix x = Check.withThings(1, 1, 1);
        x.cleaned(0, 1, 5);
        for (int refused = 0; refused < 200; refused++) {
            x.cleaned(0, 1, 4);
            x.held(0, 1, 5);
        }
        CHECK.due("refused events do not count", x.cleaned(0, 1, 5), true);
    }
}
