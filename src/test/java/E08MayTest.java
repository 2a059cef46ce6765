/** The edges of promise 8: kinds that are none, things and hours that are none, and 1 at the least level. */
public final class E08MayTest {
    private static final Check CHECK = new Check();
    private static final Twins TWINS = new Twins(CHECK);

    public static void main(String[] args) {
        alsoOneThatIsNone();
        justEnough();
        justAtTheHour();
        noThing();
        noHour();
        asking();
        CHECK.end();
    }

    private static void alsoOneThatIsNone() {
        CHECK.sentence("Whether a kind (also one that is none) may come");
        for (int kind : Edge.outside(2)) {
            CleanMatrix x = Check.withThings(2, 2, 1);
            CHECK.due("behind no content, " + kind, x.may(0, kind, 0), 1);
            CHECK.due("behind no content, " + kind, x.may(0, kind, 1_000_000), 1);
            x.need(0, 0, 0);
            x.need(0, 1, 0);
            x.need(1, 0, 0);
            x.need(1, 1, 0);
            x.held(0, 0, 1);
            CHECK.due("behind a content, " + kind, x.may(0, kind, 1), 0);
            CHECK.due("before the content, " + kind, x.may(0, kind, 0), 1);
            x.cleaned(0, 1, 2);
            CHECK.due("cleaned with less than the highest, " + kind, x.may(0, kind, 2), 0);
            x.cleaned(0, 2, 3);
            CHECK.due("cleaned with the highest, " + kind, x.may(0, kind, 3), 1);
            x.held(0, 1, 4);
            CHECK.due("behind the last kind, " + kind, x.may(0, kind, 4), 0);
            CHECK.due("a kind beside it", x.may(0, 1, 4), 1);
        }
    }

    private static void justEnough() {
        CHECK.sentence("1 or 0");
        for (int need = 0; need <= 9; need++) {
            CleanMatrix x = Check.withThings(1, 9, 1);
            x.need(0, 0, need);
            x.held(0, 0, 0);
            CHECK.due("not cleaned, needs " + need, x.may(0, 0, 0), need == 0 ? 1 : 0);
            for (int level = 1; level <= 9; level++) {
                x.cleaned(0, level, level);
                CHECK.due("cleaned with " + level + ", needs " + need, x.may(0, 0, level), level >= need ? 1 : 0);
            }
        }
    }

    private static void justAtTheHour() {
        CHECK.sentence("at an hour");
        CleanMatrix x = Check.withThings(1, 1, 1);
        x.held(0, 0, 10);
        x.cleaned(0, 1, 20);
        CHECK.due("before the content", x.may(0, 0, 9), 1);
        CHECK.due("the content's hour", x.may(0, 0, 10), 0);
        CHECK.due("before the cleaning", x.may(0, 0, 19), 0);
        CHECK.due("the cleaning's hour", x.may(0, 0, 20), 1);
        CHECK.due("the last hour that it lasts", x.may(0, 0, 43), 1);
        CHECK.due("the first that it does not", x.may(0, 0, 44), 0);
        CHECK.due("the first hour", x.may(0, 0, 0), 1);
        CHECK.due("the last hour", x.may(0, 0, 1_000_000), 0);
    }

    private static void noThing() {
        CHECK.sentence("NONE when there is no such thing");
        for (int thing : Edge.outside(Twins.THINGS)) {
            for (int kind : new int[] {-1, 0, 3}) {
                TWINS.refused("may(" + thing + ", " + kind + ", 6)", Twins::ordinary,
                    x -> x.may(thing, kind, 6), CleanMatrix.NONE);
            }
        }
        for (int thing : Edge.outside(32)) {
            TWINS.refused("may(" + thing + ", 0, 6)", Twins::fullOfThings,
                x -> x.may(thing, 0, 6), CleanMatrix.NONE);
        }
    }

    private static void noHour() {
        CHECK.sentence("NONE when there is no such .. hour");
        for (long hour : Edge.noHours()) {
            for (int kind : new int[] {-1, 0, 3}) {
                TWINS.refused("may(0, " + kind + ", " + hour + ")", Twins::ordinary,
                    x -> x.may(0, kind, hour), CleanMatrix.NONE);
            }
            TWINS.refused("may(9, 0, " + hour + ")", Twins::ordinary,
                x -> x.may(9, 0, hour), CleanMatrix.NONE);
        }
    }

    private static void asking() {
        CHECK.sentence("Whether (to ask tells nothing)");
        TWINS.refused("may(0, 0, 5)", Twins::ordinary, x -> x.may(0, 0, 5), 1);
        TWINS.refused("may(2, 2, 1000000)", Twins::ordinary, x -> x.may(2, 2, 1_000_000), 0);
        TWINS.refused("may(3, -1, 0)", Twins::ordinary, x -> x.may(3, -1, 0), 1);
        TWINS.refused("may(0, 0, 5)", Twins::fullOfEvents, x -> x.may(0, 0, 5), 1);
    }
}
