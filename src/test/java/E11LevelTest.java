/** The edges of promise 11: the first and last hours, and things and hours that are none. */
public final class E11LevelTest {
    private static final Check CHECK = new Check();
    private static final Twins TWINS = new Twins(CHECK);

    public static void main(String[] args) {
        firstAndLastHour();
        ofTheGroup();
        noThing();
        noHour();
        asking();
        CHECK.end();
    }

    private static void firstAndLastHour() {
        CHECK.sentence("at an hour");
        CleanMatrix x = Check.withThings(1, 9, 32);
        x.cleaned(31, 9, 0);
        CHECK.due("the first", x.level(31, 0), 9);
        x.cleaned(31, 8, 999_999);
        CHECK.due("one before it", x.level(31, 999_998), 0);
        CHECK.due("one before the last", x.level(31, 999_999), 8);
        x.held(31, 0, 1_000_000);
        CHECK.due("the last", x.level(31, 1_000_000), 0);
        CHECK.due("one before the last still", x.level(31, 999_999), 8);
        CHECK.due("the first thing", x.level(0, 1_000_000), 0);
    }

    private static void ofTheGroup() {
        CHECK.sentence("The level of the thing's group");
        CleanMatrix x = Check.withThings(1, 5, 4);
        x.hours(5, 1, 10);
        for (int thing = 0; thing < 4; thing++) {
            x.cleaned(thing, 5 - thing, 0);
        }
        CHECK.due("alone it is its own", x.level(0, 23), 5);
        x.joinPipe(0, 1);
        CHECK.due("the least of two", x.level(0, 0), 4);
        x.joinPipe(2, 3);
        CHECK.due("the other two", x.level(2, 0), 2);
        x.joinPipe(3, 0);
        CHECK.due("the least of four", x.level(0, 0), 2);
        x.cleaned(2, 5, 1);
        x.cleaned(3, 5, 1);
        CHECK.due("the least is another", x.level(3, 1), 4);
        x.cleaned(1, 5, 1);
        CHECK.due("all hold the highest", x.level(1, 9), 5);
        CHECK.due("the first that was cleaned holds it no longer", x.level(1, 10), 4);
        CHECK.due("it holds none any longer", x.level(1, 24), 0);
    }

    private static void noThing() {
        CHECK.sentence("NONE when there is no such thing");
        for (int thing : Edge.outside(Twins.THINGS)) {
            TWINS.refused("level(" + thing + ", 6)", Twins::ordinary,
                x -> x.level(thing, 6), CleanMatrix.NONE);
        }
        for (int thing : Edge.outside(32)) {
            TWINS.refused("level(" + thing + ", 6)", Twins::fullOfThings,
                x -> x.level(thing, 6), CleanMatrix.NONE);
        }
    }

    private static void noHour() {
        CHECK.sentence("NONE when there is no such .. hour");
        for (long hour : Edge.noHours()) {
            for (int thing : new int[] {0, 2, 3, 9}) {
                TWINS.refused("level(" + thing + ", " + hour + ")", Twins::ordinary,
                    x -> x.level(thing, hour), CleanMatrix.NONE);
            }
        }
    }

    private static void asking() {
        CHECK.sentence("The level of the thing's group (to ask tells nothing)");
        TWINS.refused("level(2, 20)", Twins::ordinary, x -> x.level(2, 20), 2);
        TWINS.refused("level(0, 1000000)", Twins::ordinary, x -> x.level(0, 1_000_000), 0);
        TWINS.refused("level(3, 20)", Twins::fullOfEvents, x -> x.level(3, 20), 0);
    }
}
