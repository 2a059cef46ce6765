/** Promise 5: joined things are a group, also over others. */
public final class P05JoinPipeTest {
    private static final Check CHECK = new Check();

    public static void main(String[] args) {
        groupsBecomeOne();
        groupsOfGroups();
        joinedBehindTheEvents();
        allThings();
        wrongInputs();
        CHECK.end();
    }

    private static void groupsBecomeOne() {
        CleanMatrix x = Check.withThings(1, 1, 4);
        CHECK.due("joinPipe(0, 1)", x.joinPipe(0, 1), true);
        CHECK.due("joinPipe(0, 1) again", x.joinPipe(0, 1), false);
        CHECK.due("joinPipe(1, 0)", x.joinPipe(1, 0), false);
        CHECK.due("joinPipe(2, 2)", x.joinPipe(2, 2), false);
        CHECK.due("joinPipe(2, 1)", x.joinPipe(2, 1), true);
        CHECK.due("joined over another", x.joinPipe(0, 2), false);
        CHECK.due("thing 3 is alone", x.joinPipe(3, 0), true);
    }

    private static void groupsOfGroups() {
        CleanMatrix x = Check.withThings(1, 1, 6);
        x.joinPipe(0, 1);
        x.joinPipe(2, 3);
        x.joinPipe(4, 5);
        CHECK.due("joinPipe(1, 3)", x.joinPipe(1, 3), true);
        CHECK.due("joinPipe(2, 0)", x.joinPipe(2, 0), false);
        for (int thing = 0; thing < 4; thing++) {
            x.cleaned(thing, 1, 0);
        }
        CHECK.due("all four are clean", x.level(0, 0), 1);
        CHECK.due("the other group is not", x.level(4, 0), 0);
        x.held(3, 0, 1);
        for (int thing = 0; thing < 4; thing++) {
            CHECK.due("a content in one of four, seen from " + thing, x.may(thing, 0, 1), 0);
        }
        CHECK.due("not seen from the other group", x.may(5, 0, 1), 1);
    }

    private static void joinedBehindTheEvents() {
        CleanMatrix x = Check.withThings(1, 1, 2);
        x.hours(1, 1, 5);
        x.cleaned(0, 1, 0);
        x.cleaned(1, 1, 0);
        CHECK.due("alone it lasts 24", x.level(0, 5), 1);
        x.joinPipe(0, 1);
        CHECK.due("joined it lasts 5", x.level(0, 5), 0);
        CHECK.due("joined it lasts 5", x.level(1, 4), 1);
        CHECK.due("seen from each of the two", x.level(1, 5), 0);
    }

    private static void allThings() {
        CleanMatrix x = Check.withThings(1, 1, 32);
        for (int thing = 1; thing < 32; thing++) {
            CHECK.due("joinPipe(" + thing + ", 0)", x.joinPipe(thing, 0), true);
        }
        CHECK.due("all are one group", x.joinPipe(0, 31), false);
        x.held(31, 0, 0);
        CHECK.due("a content in the last, seen from the first", x.may(0, 0, 0), 0);
        for (int thing = 0; thing < 32; thing++) {
            CHECK.due("not all are clean yet", x.level(0, 0), 0);
            x.cleaned(thing, 1, 0);
        }
        CHECK.due("all are clean", x.level(31, 0), 1);
        CHECK.due("all are clean", x.may(0, 0, 0), 1);
    }

    private static void wrongInputs() {
        CleanMatrix x = Check.withThings(1, 1, 2);
        int[] noThings = {-1, 2, 31, 32, Integer.MIN_VALUE, Integer.MAX_VALUE};
        for (int thing : noThings) {
            CHECK.due("joinPipe(0, " + thing + ")", x.joinPipe(0, thing), false);
            CHECK.due("joinPipe(" + thing + ", 0)", x.joinPipe(thing, 0), false);
            CHECK.due("joinPipe(" + thing + ", " + thing + ")", x.joinPipe(thing, thing), false);
        }
        x.thing();
        CHECK.due("a refused pipe joins nothing later", x.joinPipe(0, 2), true);
    }
}
