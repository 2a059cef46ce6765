/** The edges of promise 5: the first and last things, joined ones, and none. */
public final class E05JoinPipeTest {
    private static final Check CHECK = new Check();
    private static final Twins TWINS = new Twins(CHECK);

    public static void main(String[] args) {
        makesTwoGroupsOne();
        oneGroupAlready();
        noThing();
        CHECK.end();
    }

    private static void makesTwoGroupsOne() {
        CHECK.sentence("Two things are joined: whether that makes two groups one");
        CleanMatrix x = Check.withThings(1, 1, 32);
        CHECK.due("the first and the last", x.joinPipe(0, 31), true);
        CHECK.due("two others", x.joinPipe(30, 1), true);
        CHECK.due("groups of two", x.joinPipe(31, 1), true);
        CHECK.due("each with each", x.joinPipe(30, 0), false);
        for (int thing = 2; thing < 30; thing++) {
            CHECK.due("one more, " + thing, x.joinPipe(thing, thing % 2), true);
        }
        for (int thing = 0; thing < 32; thing++) {
            CHECK.due("all are one group, " + thing, x.joinPipe(thing, 31 - thing), false);
        }
    }

    private static void oneGroupAlready() {
        CHECK.sentence("whether that makes two groups one (false: it does not)");
        int[][] pairs = {{0, 1}, {1, 0}, {0, 0}, {1, 1}, {2, 2}, {3, 3}};
        for (int[] pair : pairs) {
            TWINS.refused("joinPipe(" + pair[0] + ", " + pair[1] + ")", Twins::ordinary,
                x -> Twins.number(x.joinPipe(pair[0], pair[1])), false);
        }
        TWINS.refused("joinPipe(31, 30)", Twins::fullOfThings, x -> Twins.number(x.joinPipe(31, 30)), false);
        TWINS.refused("joinPipe(31, 31)", Twins::fullOfThings, x -> Twins.number(x.joinPipe(31, 31)), false);
    }

    private static void noThing() {
        CHECK.sentence("False when one is none");
        for (int none : Edge.outside(Twins.THINGS)) {
            for (int thing = 0; thing < Twins.THINGS; thing++) {
                int one = thing;
                TWINS.refused("joinPipe(" + thing + ", " + none + ")", Twins::ordinary,
                    x -> Twins.number(x.joinPipe(one, none)), false);
                TWINS.refused("joinPipe(" + none + ", " + thing + ")", Twins::ordinary,
                    x -> Twins.number(x.joinPipe(none, one)), false);
            }
            TWINS.refused("joinPipe(" + none + ", " + none + ")", Twins::ordinary,
                x -> Twins.number(x.joinPipe(none, none)), false);
        }
        for (int none : Edge.outside(32)) {
            TWINS.refused("joinPipe(0, " + none + ")", Twins::fullOfThings,
                x -> Twins.number(x.joinPipe(0, none)), false);
            TWINS.refused("joinPipe(" + none + ", 31)", Twins::fullOfThings,
                x -> Twins.number(x.joinPipe(none, 31)), false);
        }
    }
}
