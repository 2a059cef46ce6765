/** Promise 8: whether a kind may come. */
public final class P08MayTest {
    private static final Check CHECK = new Check();

    public static void main(String[] args) {
        behindOneContent();
        behindTheContentsOfAGroup();
        kindsThatAreNone();
        wrongInputs();
        CHECK.end();
    }

    private static void behindOneContent() {
        CleanMatrix x = Check.withThings(2, 3, 1);
        x.need(0, 1, 2);
        x.held(0, 0, 5);
        x.cleaned(0, 1, 6);
        x.cleaned(0, 2, 7);
        CHECK.due("before the content", x.may(0, 1, 4), 1);
        CHECK.due("uncleaned", x.may(0, 1, 5), 0);
        CHECK.due("cleaned too low", x.may(0, 1, 6), 0);
        CHECK.due("cleaned enough", x.may(0, 1, 7), 1);
        CHECK.due("the last hour that it lasts", x.may(0, 1, 30), 1);
        CHECK.due("it lasts no longer", x.may(0, 1, 31), 0);
        CHECK.due("untold needs the highest", x.may(0, 0, 7), 0);
        x.cleaned(0, 3, 8);
        CHECK.due("the highest", x.may(0, 0, 8), 1);
        CHECK.due("to ask changes nothing", x.may(0, 0, 8), 1);
    }

    private static void behindTheContentsOfAGroup() {
        CleanMatrix x = Check.withThings(3, 3, 3);
        x.need(0, 2, 1);
        x.need(1, 2, 2);
        x.joinPipe(0, 1);
        x.joinPipe(1, 2);
        CHECK.due("no contents, no cleanings", x.may(0, 2, 0), 1);
        x.held(0, 0, 1);
        x.held(1, 1, 2);
        for (int thing = 0; thing < 3; thing++) {
            x.cleaned(thing, 1, 3);
        }
        CHECK.due("enough for the one, not for the other", x.may(0, 2, 3), 0);
        x.cleaned(1, 2, 4);
        CHECK.due("the group's level is the least", x.may(1, 2, 4), 0);
        x.cleaned(0, 2, 5);
        CHECK.due("the thing without content counts for the level", x.may(0, 2, 5), 0);
        x.cleaned(2, 2, 6);
        for (int thing = 0; thing < 3; thing++) {
            CHECK.due("all are clean enough, seen from " + thing, x.may(thing, 2, 6), 1);
        }
    }

    private static void kindsThatAreNone() {
        int[] none = {-1, 2, 20, Integer.MIN_VALUE, Integer.MAX_VALUE};
        for (int kind : none) {
            CleanMatrix x = Check.withThings(2, 2, 1);
            CHECK.due("no kind behind no content", x.may(0, kind, 9), 1);
            x.need(0, 0, 0);
            x.need(0, 1, 0);
            x.held(0, 0, 0);
            x.cleaned(0, 1, 0);
            CHECK.due("no kind needs the highest", x.may(0, kind, 0), 0);
            x.cleaned(0, 2, 0);
            CHECK.due("no kind behind the highest", x.may(0, kind, 0), 1);
        }
    }

    private static void wrongInputs() {
        CleanMatrix x = Check.withThings(2, 2, 2);
        int[] noThings = {-1, 2, 32, Integer.MIN_VALUE, Integer.MAX_VALUE};
        for (int thing : noThings) {
            CHECK.due("may(" + thing + ", 0, 0)", x.may(thing, 0, 0), CleanMatrix.NONE);
        }
        long[] noHours = {-1, 1_000_001, Long.MIN_VALUE, Long.MAX_VALUE, 1L << 32};
        for (long hour : noHours) {
            CHECK.due("may(0, 0, " + hour + ")", x.may(0, 0, hour), CleanMatrix.NONE);
        }
        CHECK.due("may(1, 0, 0)", x.may(1, 0, 0), 1);
        CHECK.due("may(1, 0, 1000000)", x.may(1, 0, 1_000_000), 1);
    }
}
