/** The edges of promise 7: things, levels, hours and events at both ends, and refused cleanings. */
public final class E07CleanedTest {
    private static final Check CHECK = new Check();
    private static final Twins TWINS = new Twins(CHECK);

    public static void main(String[] args) {
        firstAndLast();
        noThing();
        noLevel();
        noHour();
        belowAnEvent();
        belowAnEventThatWasToldLate();
        notBelowOthers();
        full();
        CHECK.end();
    }

    private static void firstAndLast() {
        CHECK.sentence("A cleaning with a level (1 or more) at an hour. True");
        for (int thing : new int[] {0, 31}) {
            CleanMatrix x = Check.withThings(1, 9, 32);
            CHECK.due("the first level at the first hour", x.cleaned(thing, 1, 0), true);
            CHECK.due("it is there", x.level(thing, 0), 1);
            CHECK.due("the last level at the last hour", x.cleaned(thing, 9, 1_000_000), true);
            CHECK.due("not yet there", x.level(thing, 999_999), 0);
            CHECK.due("it is there", x.level(thing, 1_000_000), 9);
        }
    }

    private static void noThing() {
        CHECK.sentence("False, refused, when there is no such thing");
        for (int thing : Edge.outside(Twins.THINGS)) {
            TWINS.refused("cleaned(" + thing + ", 3, 30)", Twins::ordinary,
                x -> Twins.number(x.cleaned(thing, 3, 30)), false);
        }
        for (int thing : Edge.outside(32)) {
            TWINS.refused("cleaned(" + thing + ", 3, 30)", Twins::fullOfThings,
                x -> Twins.number(x.cleaned(thing, 3, 30)), false);
        }
    }

    private static void noLevel() {
        CHECK.sentence("False, refused, when there is no such .. level (1 or more)");
        for (int level : Edge.outside(1, Twins.LEVELS)) {
            for (int thing = 0; thing < Twins.THINGS; thing++) {
                int one = thing;
                TWINS.refused("cleaned(" + thing + ", " + level + ", 30)", Twins::ordinary,
                    x -> Twins.number(x.cleaned(one, level, 30)), false);
            }
        }
    }

    private static void noHour() {
        CHECK.sentence("the hour is out of its range");
        for (long hour : Edge.noHours()) {
            for (int thing = 0; thing < Twins.THINGS; thing++) {
                int one = thing;
                TWINS.refused("cleaned(" + thing + ", 3, " + hour + ")", Twins::ordinary,
                    x -> Twins.number(x.cleaned(one, 3, hour)), false);
            }
        }
    }

    private static void belowAnEvent() {
        CHECK.sentence("or below that of an event of the thing");
        CleanMatrix x = Check.withThings(1, 2, 2);
        x.held(0, 0, 10);
        CHECK.due("one below a content", x.cleaned(0, 1, 9), false);
        CHECK.due("the content's hour", x.cleaned(0, 1, 10), true);
        x.cleaned(0, 1, 20);
        CHECK.due("one below a cleaning", x.cleaned(0, 2, 19), false);
        CHECK.due("the cleaning's hour", x.cleaned(0, 2, 20), true);
        x.cleaned(0, 1, 1_000_000);
        CHECK.due("one below the last hour", x.cleaned(0, 1, 999_999), false);
        CHECK.due("the last hour", x.cleaned(0, 1, 1_000_000), true);
        for (long hour : new long[] {0, 14, 15, 19}) {
            TWINS.refused("cleaned(2, 3, " + hour + ")", Twins::ordinary,
                y -> Twins.number(y.cleaned(2, 3, hour)), false);
        }
        TWINS.refused("cleaned(0, 3, 5)", Twins::ordinary, y -> Twins.number(y.cleaned(0, 3, 5)), false);
        TWINS.refused("cleaned(1, 3, 4)", Twins::ordinary, y -> Twins.number(y.cleaned(1, 3, 4)), false);
    }

    private static void belowAnEventThatWasToldLate() {
        CHECK.sentence("or below that of an event of the thing (its hour, not the one on which it was told)");
        CleanMatrix x = Check.withThings(1, 1, 1);
        x.told(0, 0, 30, 40);
        CHECK.due("one below it", x.cleaned(0, 1, 29), false);
        CHECK.due("its hour", x.cleaned(0, 1, 30), true);
        CHECK.due("behind it", x.level(0, 30), 1);
        x.told(0, 0, 5, 50);
        CHECK.due("below another event still", x.cleaned(0, 1, 29), false);
        CHECK.due("not below any", x.cleaned(0, 1, 31), true);
    }

    private static void notBelowOthers() {
        CHECK.sentence("of the thing (not of another one)");
        CleanMatrix x = Check.withThings(1, 1, 3);
        x.joinPipe(0, 1);
        x.cleaned(0, 1, 1_000_000);
        CHECK.due("one of the same group", x.cleaned(1, 1, 0), true);
        CHECK.due("one alone", x.cleaned(2, 1, 0), true);
    }

    private static void full() {
        CHECK.sentence("or there are 200 events");
        CleanMatrix x = Check.withThings(1, 1, 3);
        for (int event = 0; event < 199; event++) {
            x.held(event % 2, 0, 0);
        }
        CHECK.due("the last of 200", x.cleaned(0, 1, 0), true);
        CHECK.due("it is there", x.level(0, 0), 1);
        CHECK.due("one more", x.cleaned(0, 1, 0), false);
        CHECK.due("one more, of a thing without events", x.cleaned(2, 1, 0), false);
        CHECK.due("it is not there", x.level(2, 0), 0);
        for (int thing = 0; thing < Twins.THINGS; thing++) {
            int one = thing;
            TWINS.refused("cleaned(" + thing + ", 3, 22)", Twins::fullOfEvents,
                y -> Twins.number(y.cleaned(one, 3, 22)), false);
        }
    }
}
