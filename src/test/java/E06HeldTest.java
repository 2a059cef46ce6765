/** The edges of promise 6: things, kinds, hours and events at both ends, and refused contents. */
public final class E06HeldTest {
    private static final Check CHECK = new Check();
    private static final Twins TWINS = new Twins(CHECK);

    public static void main(String[] args) {
        firstAndLast();
        noThing();
        noKind();
        noHour();
        belowAnEvent();
        belowAnEventThatWasToldLate();
        notBelowOthers();
        full();
        CHECK.end();
    }

    private static void firstAndLast() {
        CHECK.sentence("A content of a kind at an hour. True");
        for (int thing : new int[] {0, 31}) {
            CleanMatrix x = Check.withThings(20, 2, 32);
            x.need(0, 5, 0);
            x.need(19, 5, 1);
            CHECK.due("the first kind at the first hour", x.held(thing, 0, 0), true);
            CHECK.due("it is there", x.least(thing, 5, 0), 0);
            CHECK.due("it is there", x.least(thing, 6, 0), 2);
            CHECK.due("the last kind at the last hour", x.held(thing, 19, 1_000_000), true);
            CHECK.due("not yet there", x.least(thing, 5, 999_999), 0);
            CHECK.due("it is there", x.least(thing, 5, 1_000_000), 1);
        }
    }

    private static void noThing() {
        CHECK.sentence("False, refused, when there is no such thing");
        for (int thing : Edge.outside(Twins.THINGS)) {
            TWINS.refused("held(" + thing + ", 1, 30)", Twins::ordinary,
                x -> Twins.number(x.held(thing, 1, 30)), false);
        }
        for (int thing : Edge.outside(32)) {
            TWINS.refused("held(" + thing + ", 1, 30)", Twins::fullOfThings,
                x -> Twins.number(x.held(thing, 1, 30)), false);
        }
    }

    private static void noKind() {
        CHECK.sentence("False, refused, when there is no such .. kind");
        for (int kind : Edge.outside(Twins.KINDS)) {
            for (int thing = 0; thing < Twins.THINGS; thing++) {
                int one = thing;
                TWINS.refused("held(" + thing + ", " + kind + ", 30)", Twins::ordinary,
                    x -> Twins.number(x.held(one, kind, 30)), false);
            }
        }
    }

    private static void noHour() {
        CHECK.sentence("the hour is out of its range");
        for (long hour : Edge.noHours()) {
            for (int thing = 0; thing < Twins.THINGS; thing++) {
                int one = thing;
                TWINS.refused("held(" + thing + ", 1, " + hour + ")", Twins::ordinary,
                    x -> Twins.number(x.held(one, 1, hour)), false);
            }
        }
    }

    private static void belowAnEvent() {
        CHECK.sentence("or below that of an event of the thing");
        CleanMatrix x = Check.withThings(1, 1, 2);
        x.held(0, 0, 10);
        CHECK.due("one below a content", x.held(0, 0, 9), false);
        CHECK.due("the content's hour", x.held(0, 0, 10), true);
        x.cleaned(0, 1, 20);
        CHECK.due("one below a cleaning", x.held(0, 0, 19), false);
        CHECK.due("the cleaning's hour", x.held(0, 0, 20), true);
        x.held(0, 0, 1_000_000);
        CHECK.due("one below the last hour", x.held(0, 0, 999_999), false);
        CHECK.due("the last hour", x.held(0, 0, 1_000_000), true);
        for (long hour : new long[] {0, 14, 15, 19}) {
            TWINS.refused("held(2, 1, " + hour + ")", Twins::ordinary,
                y -> Twins.number(y.held(2, 1, hour)), false);
        }
        TWINS.refused("held(0, 1, 5)", Twins::ordinary, y -> Twins.number(y.held(0, 1, 5)), false);
        TWINS.refused("held(1, 1, 4)", Twins::ordinary, y -> Twins.number(y.held(1, 1, 4)), false);
    }

    private static void belowAnEventThatWasToldLate() {
        CHECK.sentence("or below that of an event of the thing (its hour, not the one on which it was told)");
        CleanMatrix x = Check.withThings(1, 1, 1);
        x.told(0, 0, 30, 40);
        CHECK.due("one below it", x.held(0, 0, 29), false);
        CHECK.due("its hour", x.held(0, 0, 30), true);
        x.told(0, 0, 5, 50);
        CHECK.due("below another event still", x.held(0, 0, 29), false);
        CHECK.due("not below any", x.held(0, 0, 31), true);
    }

    private static void notBelowOthers() {
        CHECK.sentence("of the thing (not of another one)");
        CleanMatrix x = Check.withThings(1, 1, 3);
        x.joinPipe(0, 1);
        x.held(0, 0, 1_000_000);
        CHECK.due("one of the same group", x.held(1, 0, 0), true);
        CHECK.due("one alone", x.held(2, 0, 0), true);
    }

    private static void full() {
        CHECK.sentence("or there are 200 events");
        CleanMatrix x = Check.withThings(1, 1, 3);
        for (int event = 0; event < 199; event++) {
            x.cleaned(event % 2, 1, 0);
        }
        CHECK.due("the last of 200", x.held(0, 0, 0), true);
        CHECK.due("it is there", x.may(0, 0, 0), 0);
        CHECK.due("one more", x.held(0, 0, 0), false);
        CHECK.due("one more, of a thing without events", x.held(2, 0, 0), false);
        CHECK.due("it is not there", x.may(2, 0, 0), 1);
        for (int thing = 0; thing < Twins.THINGS; thing++) {
            int one = thing;
            TWINS.refused("held(" + thing + ", 1, 20)", Twins::fullOfEvents,
                y -> Twins.number(y.held(one, 1, 20)), false);
        }
    }
}
