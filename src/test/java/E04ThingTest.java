/** The edges of promise 4: the first, the last, and none more. */
public final class E04ThingTest {
    private static final Check CHECK = new Check();
    private static final Twins TWINS = new Twins(CHECK);

    public static void main(String[] args) {
        numbers();
        full();
        CHECK.end();
    }

    private static void numbers() {
        CHECK.sentence("A thing: its number");
        CleanMatrix x = new CleanMatrix(1, 1);
        for (int thing = 0; thing < 32; thing++) {
            CHECK.due("before it is made", x.level(thing, 0), CleanMatrix.NONE);
            CHECK.due("thing()", x.thing(), thing);
            CHECK.due("no events", x.level(thing, 0), 0);
            CHECK.due("no content", x.may(thing, 0, 1_000_000), 1);
            CHECK.due("any hour", x.cleaned(thing, 1, 0), true);
            CHECK.due("alone", x.level(thing, 0), 1);
        }
    }

    private static void full() {
        CHECK.sentence("FULL");
        CleanMatrix x = Check.withThings(1, 1, 31);
        CHECK.due("the last", x.thing(), 31);
        for (int call = 0; call < 400; call++) {
            CHECK.due("one more", x.thing(), CleanMatrix.FULL);
        }
        CHECK.due("no thing 32", x.level(32, 0), CleanMatrix.NONE);
        CHECK.due("no thing 32", x.cleaned(32, 1, 0), false);
        CHECK.due("no thing 32", x.joinPipe(32, 0), false);
        CHECK.due("thing 31 stays", x.joinPipe(31, 0), true);
        TWINS.refused("thing()", Twins::fullOfThings, CleanMatrix::thing, CleanMatrix.FULL);
    }
}
