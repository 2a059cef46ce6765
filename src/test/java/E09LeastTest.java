/** The edges of promise 9: 0, the least and the highest level, ties, and things and hours that are none. */
public final class E09LeastTest {
    private static final Check CHECK = new Check();
    private static final Twins TWINS = new Twins(CHECK);

    public static void main(String[] args) {
        zeroWhenItMay();
        atLeastWhatItNeeds();
        costsLeast();
        ofTheseTheLeast();
        alsoOneThatDoesNotLast();
        kindsThatAreNone();
        thenItMay();
        noThing();
        noHour();
        asking();
        CHECK.end();
    }

    private static void zeroWhenItMay() {
        CHECK.sentence("0 when it may");
        CleanMatrix x = Check.withThings(1, 3, 1);
        CHECK.due("no content", x.least(0, 0, 0), 0);
        x.held(0, 0, 5);
        CHECK.due("before the content", x.least(0, 0, 4), 0);
        CHECK.due("the content's hour", x.least(0, 0, 5), 3);
        x.need(0, 0, 0);
        CHECK.due("nothing is needed", x.least(0, 0, 5), 0);
        x.need(0, 0, 2);
        x.cleaned(0, 2, 6);
        CHECK.due("before the cleaning", x.least(0, 0, 5), 2);
        CHECK.due("the cleaning's hour", x.least(0, 0, 6), 0);
        CHECK.due("the last hour that it lasts", x.least(0, 0, 29), 0);
        CHECK.due("the first that it does not", x.least(0, 0, 30), 2);
        CHECK.due("the last hour of all", x.least(0, 0, 1_000_000), 2);
        x.cost(2, 1);
        CHECK.due("it may, and another level is cheaper", x.least(0, 0, 6), 0);
    }

    private static void atLeastWhatItNeeds() {
        CHECK.sentence("of the levels that are at least what it needs");
        for (int need = 1; need <= 9; need++) {
            CleanMatrix x = Check.withThings(1, 9, 1);
            x.need(0, 0, need);
            x.held(0, 0, 0);
            for (int level = need; level <= 9; level++) {
                x.cost(level, 1_000_000);
            }
            CHECK.due("those below " + need + " are cheaper", x.least(0, 0, 0), need);
            x.cost(9, 999_999);
            CHECK.due("the highest counts too", x.least(0, 0, 0), 9);
        }
        CleanMatrix y = Check.withThings(1, 1, 1);
        y.held(0, 0, 0);
        y.cost(1, 1_000_000);
        CHECK.due("the only level", y.least(0, 0, 0), 1);
    }

    private static void costsLeast() {
        CHECK.sentence("the one that costs least");
        for (int cheap = 2; cheap <= 9; cheap++) {
            CleanMatrix x = Check.withThings(1, 9, 1);
            x.need(0, 0, 2);
            x.held(0, 0, 0);
            for (int level = 1; level <= 9; level++) {
                x.cost(level, level == cheap ? 6 : 7);
            }
            CHECK.due("cheaper by one cent", x.least(0, 0, 0), cheap);
            x.cost(cheap, 0);
            CHECK.due("costs nothing", x.least(0, 0, 0), cheap);
        }
    }

    private static void ofTheseTheLeast() {
        CHECK.sentence("of these the least");
        CleanMatrix x = Check.withThings(1, 9, 1);
        x.need(0, 0, 3);
        x.held(0, 0, 0);
        CHECK.due("all cost the same", x.least(0, 0, 0), 3);
        x.cost(3, 9);
        for (int level = 4; level <= 9; level++) {
            x.cost(level, 8);
        }
        CHECK.due("the least of the cheaper ones", x.least(0, 0, 0), 4);
        x.cost(4, 9);
        x.cost(9, 7);
        x.cost(6, 7);
        CHECK.due("the least of two", x.least(0, 0, 0), 6);
    }

    private static void alsoOneThatDoesNotLast() {
        CHECK.sentence("of the levels that are at least what it needs (how long they last is not asked)");
        CleanMatrix x = Check.withThings(1, 4, 3);
        x.joinPipe(1, 2);
        x.need(0, 0, 2);
        x.held(0, 0, 0);
        x.held(1, 0, 0);
        for (int state = 0; state < 2; state++) {
            x.hours(2, state, 0);
            x.hours(4, state, 0);
        }
        for (int thing = 0; thing < 2; thing++) {
            x.cost(2, 0);
            CHECK.due("the least level, state " + thing, x.least(thing, 0, 0), 2);
            x.cost(2, 9);
            x.cost(3, 9);
            CHECK.due("the highest is the cheapest, state " + thing, x.least(thing, 0, 0), 4);
            x.cleaned(thing, 4, 0);
            CHECK.due("cleaned with it, but it lasts no hour, state " + thing, x.least(thing, 0, 24), 4);
        }
    }

    private static void kindsThatAreNone() {
        CHECK.sentence("what it needs (t is no kind: the highest)");
        for (int kind : Edge.outside(2)) {
            CleanMatrix x = Check.withThings(2, 5, 1);
            CHECK.due("behind no content, " + kind, x.least(0, kind, 3), 0);
            x.need(0, 0, 0);
            x.need(0, 1, 0);
            x.held(0, 0, 3);
            x.cost(5, 1_000_000);
            CHECK.due("behind a content, " + kind, x.least(0, kind, 3), 5);
            x.cleaned(0, 5, 3);
            CHECK.due("cleaned with the highest, " + kind, x.least(0, kind, 3), 0);
        }
    }

    private static void thenItMay() {
        CHECK.sentence("The level with which the group is to be cleaned so that a kind may come");
        CleanMatrix x = Check.withThings(2, 4, 3);
        x.need(0, 1, 2);
        x.need(1, 1, 3);
        x.joinPipe(0, 1);
        x.joinPipe(1, 2);
        x.held(0, 0, 0);
        x.held(2, 1, 0);
        int level = x.least(1, 1, 0);
        CHECK.due("the most that one of the group needs", level, 3);
        for (int thing = 0; thing < 3; thing++) {
            CHECK.due("not all of the group are cleaned", x.may(thing, 1, 0), 0);
            CHECK.due("not all of the group are cleaned", x.least(thing, 1, 0), 3);
            x.cleaned(thing, level, 0);
        }
        CHECK.due("the group was cleaned with it", x.may(1, 1, 0), 1);
        CHECK.due("the group was cleaned with it", x.least(1, 1, 0), 0);
    }

    private static void noThing() {
        CHECK.sentence("NONE when there is no such thing");
        for (int thing : Edge.outside(Twins.THINGS)) {
            for (int kind : new int[] {-1, 0, 3}) {
                TWINS.refused("least(" + thing + ", " + kind + ", 6)", Twins::ordinary,
                    x -> x.least(thing, kind, 6), CleanMatrix.NONE);
            }
        }
        for (int thing : Edge.outside(32)) {
            TWINS.refused("least(" + thing + ", 0, 6)", Twins::fullOfThings,
                x -> x.least(thing, 0, 6), CleanMatrix.NONE);
        }
    }

    private static void noHour() {
        CHECK.sentence("NONE when there is no such .. hour");
        for (long hour : Edge.noHours()) {
            for (int kind : new int[] {-1, 0, 3}) {
                TWINS.refused("least(0, " + kind + ", " + hour + ")", Twins::ordinary,
                    x -> x.least(0, kind, hour), CleanMatrix.NONE);
            }
            TWINS.refused("least(9, 0, " + hour + ")", Twins::ordinary,
                x -> x.least(9, 0, hour), CleanMatrix.NONE);
        }
    }

    private static void asking() {
        CHECK.sentence("The level with which the group is to be cleaned (to ask cleans nothing)");
        TWINS.refused("least(2, 2, 1000000)", Twins::ordinary, x -> x.least(2, 2, 1_000_000), 3);
        TWINS.refused("least(0, 1, 5)", Twins::ordinary, x -> x.least(0, 1, 5), 1);
        TWINS.refused("least(0, 0, 5)", Twins::fullOfEvents, x -> x.least(0, 0, 5), 0);
    }
}
