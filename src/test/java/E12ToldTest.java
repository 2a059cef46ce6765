/** The edges of promise 12: both hours at both ends, the place among the events, and refused contents. */
public final class E12ToldTest {
    private static final Check CHECK = new Check();
    private static final Twins TWINS = new Twins(CHECK);

    public static void main(String[] args) {
        firstAndLast();
        fromTheSameHour();
        takesItsPlace();
        noThing();
        noKind();
        noHour();
        noHourOn();
        onBelowTheHour();
        onBelowAnEventInTime();
        onBelowAnEventToldLate();
        onBelowAnEventInTimeBehindLateOnes();
        onsKeepApart();
        behindManyEvents();
        notBelowOthers();
        full();
        CHECK.end();
    }

    private static void firstAndLast() {
        CHECK.sentence("A content that comes to be known at an hour on. True");
        for (int thing : new int[] {0, 31}) {
            CleanMatrix x = Check.withThings(20, 2, 32);
            x.need(0, 5, 0);
            x.need(19, 5, 1);
            CHECK.due("the last kind, the last hours", x.told(thing, 19, 1_000_000, 1_000_000), true);
            CHECK.due("it is there", x.least(thing, 5, 1_000_000), 1);
            CHECK.due("not before", x.least(thing, 6, 999_999), 0);
            CHECK.due("the first kind, first and last hour", x.told(thing, 0, 0, 1_000_000), true);
            CHECK.due("it is there", x.least(thing, 6, 0), 2);
            CHECK.due("the last is still the last", x.least(thing, 5, 1_000_000), 1);
            CHECK.due("the first hours", x.told(thing, 19, 0, 0), true);
            CHECK.due("it is there", x.least(thing, 5, 0), 1);
        }
    }

    private static void fromTheSameHour() {
        CHECK.sentence("and was there from an earlier one, or the same, on");
        CleanMatrix x = Check.withThings(1, 1, 3);
        CHECK.due("the same", x.told(0, 0, 7, 7), true);
        CHECK.due("there from it on", x.may(0, 0, 7), 0);
        CHECK.due("not before it", x.may(0, 0, 6), 1);
        CHECK.due("one earlier", x.told(1, 0, 6, 7), true);
        CHECK.due("there from it on", x.may(1, 0, 6), 0);
        CHECK.due("not before it", x.may(1, 0, 5), 1);
        CHECK.due("one later", x.told(2, 0, 8, 7), false);
        CHECK.due("not there", x.may(2, 0, 8), 1);
    }

    private static void takesItsPlace() {
        CHECK.sentence("it takes its place among the events");
        CleanMatrix x = Check.withThings(3, 3, 1);
        x.need(0, 0, 0);
        x.need(1, 0, 1);
        x.need(2, 0, 2);
        x.held(0, 0, 10);
        x.cleaned(0, 3, 20);
        x.cleaned(0, 1, 30);
        CHECK.due("before all", x.told(0, 1, 9, 30), true);
        CHECK.due("before all", x.least(0, 0, 9), 1);
        CHECK.due("before all", x.least(0, 0, 10), 0);
        CHECK.due("behind the content of its hour", x.told(0, 2, 10, 30), true);
        CHECK.due("behind the content of its hour", x.least(0, 0, 10), 2);
        CHECK.due("before the cleaning", x.told(0, 1, 19, 30), true);
        CHECK.due("before the cleaning", x.least(0, 0, 19), 1);
        CHECK.due("the cleaning is behind it", x.level(0, 30), 3);
        CHECK.due("behind the cleaning of its hour", x.told(0, 1, 20, 30), true);
        CHECK.due("the cleaning is before it", x.level(0, 20), 0);
        CHECK.due("the next cleaning is behind it", x.level(0, 30), 1);
        CHECK.due("behind all", x.told(0, 2, 30, 30), true);
        CHECK.due("behind all", x.level(0, 30), 0);
        CHECK.due("behind all", x.least(0, 0, 30), 2);
    }

    private static void noThing() {
        CHECK.sentence("False, refused, when there is no such thing");
        for (int thing : Edge.outside(Twins.THINGS)) {
            TWINS.refused("told(" + thing + ", 1, 7, 30)", Twins::ordinary,
                x -> Twins.number(x.told(thing, 1, 7, 30)), false);
        }
        for (int thing : Edge.outside(32)) {
            TWINS.refused("told(" + thing + ", 1, 7, 30)", Twins::fullOfThings,
                x -> Twins.number(x.told(thing, 1, 7, 30)), false);
        }
    }

    private static void noKind() {
        CHECK.sentence("False, refused, when there is no such .. kind");
        for (int kind : Edge.outside(Twins.KINDS)) {
            for (int thing = 0; thing < Twins.THINGS; thing++) {
                int one = thing;
                TWINS.refused("told(" + thing + ", " + kind + ", 7, 30)", Twins::ordinary,
                    x -> Twins.number(x.told(one, kind, 7, 30)), false);
            }
        }
    }

    private static void noHour() {
        CHECK.sentence("an hour is out of its range: the hour");
        for (long hour : Edge.noHours()) {
            for (long on : new long[] {0, 30, 1_000_000}) {
                TWINS.refused("told(2, 1, " + hour + ", " + on + ")", Twins::ordinary,
                    x -> Twins.number(x.told(2, 1, hour, on)), false);
            }
            TWINS.refused("told(3, 1, " + hour + ", " + hour + ")", Twins::ordinary,
                x -> Twins.number(x.told(3, 1, hour, hour)), false);
        }
    }

    private static void noHourOn() {
        CHECK.sentence("an hour is out of its range: on");
        for (long on : Edge.noHours()) {
            for (long hour : new long[] {0, 7, 1_000_000}) {
                TWINS.refused("told(2, 1, " + hour + ", " + on + ")", Twins::ordinary,
                    x -> Twins.number(x.told(2, 1, hour, on)), false);
                TWINS.refused("told(3, 1, " + hour + ", " + on + ")", Twins::ordinary,
                    x -> Twins.number(x.told(3, 1, hour, on)), false);
            }
        }
    }

    private static void onBelowTheHour() {
        CHECK.sentence("on is below the hour");
        long[][] pairs = {{1, 0}, {31, 30}, {1_000_000, 999_999}, {1_000_000, 0}};
        for (long[] pair : pairs) {
            for (int thing = 0; thing < Twins.THINGS; thing++) {
                int one = thing;
                TWINS.refused("told(" + thing + ", 1, " + pair[0] + ", " + pair[1] + ")", Twins::ordinary,
                    x -> Twins.number(x.told(one, 1, pair[0], pair[1])), false);
            }
        }
    }

    private static void onBelowAnEventInTime() {
        CHECK.sentence("or below the hour of an event of the thing that was not told late");
        CleanMatrix x = Check.withThings(1, 1, 1);
        x.held(0, 0, 10);
        CHECK.due("one below a content", x.told(0, 0, 3, 9), false);
        CHECK.due("the content's hour", x.told(0, 0, 3, 10), true);
        x.cleaned(0, 1, 20);
        CHECK.due("one below a cleaning", x.told(0, 0, 3, 19), false);
        CHECK.due("the cleaning's hour", x.told(0, 0, 3, 20), true);
        CHECK.due("above it", x.told(0, 0, 3, 21), true);
        TWINS.refused("told(0, 1, 0, 5)", Twins::ordinary, y -> Twins.number(y.told(0, 1, 0, 5)), false);
        TWINS.refused("told(1, 1, 4, 4)", Twins::ordinary, y -> Twins.number(y.told(1, 1, 4, 4)), false);
        TWINS.refused("told(2, 1, 19, 19)", Twins::ordinary, y -> Twins.number(y.told(2, 1, 19, 19)), false);
    }

    private static void onBelowAnEventToldLate() {
        CHECK.sentence("that was not told late (one that was does not count)");
        CleanMatrix x = Check.withThings(1, 1, 1);
        x.told(0, 0, 50, 60);
        CHECK.due("below its hour", x.told(0, 0, 30, 49), true);
        CHECK.due("below its hour", x.told(0, 0, 0, 0), true);
        x.held(0, 0, 50);
        CHECK.due("now there is one in time", x.told(0, 0, 30, 49), false);
        CHECK.due("its hour", x.told(0, 0, 30, 50), true);
    }

    private static void onBelowAnEventInTimeBehindLateOnes() {
        CHECK.sentence("of an event of the thing that was not told late (though later ones were)");
        CleanMatrix x = Check.withThings(1, 1, 1);
        x.cleaned(0, 1, 10);
        x.told(0, 0, 10, 90);
        x.told(0, 0, 50, 90);
        x.told(0, 0, 40, 90);
        CHECK.due("one below the one in time", x.told(0, 0, 5, 9), false);
        CHECK.due("its hour", x.told(0, 0, 5, 10), true);
        CHECK.due("the first content is not behind the refused one", x.may(0, 0, 4), 1);
    }

    private static void onsKeepApart() {
        CHECK.sentence("on is below the hour, or below the hour of an event (each hour its own)");
        for (int hour : Edge.widths(1_000_000)) {
            CleanMatrix x = Check.withThings(1, 1, 2);
            x.cleaned(0, 1, hour);
            for (int on : Edge.widths(1_000_000)) {
                CHECK.due("on " + on + ", a cleaning at " + hour, x.told(0, 0, 0, on), on >= hour);
                CHECK.due("on " + on + ", the hour " + hour, x.told(1, 0, hour, on), on >= hour);
            }
        }
    }

    private static void behindManyEvents() {
        CHECK.sentence("it takes its place; below the hour of an event that was not told late (of 200)");
        CleanMatrix x = Check.withThings(2, 1, 1);
        x.need(1, 1, 0);
        x.told(0, 1, 4, 5);
        for (int event = 1; event < 199; event++) {
            x.told(0, 1, 5, 5);
        }
        CHECK.due("the last of 200 before all others", x.told(0, 0, 3, 5), true);
        CHECK.due("it is there", x.may(0, 1, 3), 0);
        CHECK.due("it is before the first of the others", x.may(0, 1, 4), 1);
        CHECK.due("it is before the others", x.may(0, 1, 5), 1);

        CleanMatrix y = Check.withThings(1, 1, 1);
        y.cleaned(0, 1, 10);
        for (int event = 0; event < 198; event++) {
            y.told(0, 0, 20, 20);
        }
        CHECK.due("below the only one in time", y.told(0, 0, 3, 9), false);
        CHECK.due("its hour", y.told(0, 0, 3, 10), true);
        CHECK.due("full", y.told(0, 0, 3, 10), false);
    }

    private static void notBelowOthers() {
        CHECK.sentence("of an event of the thing (not of another one)");
        CleanMatrix x = Check.withThings(1, 1, 3);
        x.joinPipe(0, 1);
        x.held(0, 0, 1_000_000);
        CHECK.due("one of the same group", x.told(1, 0, 0, 0), true);
        CHECK.due("one alone", x.told(2, 0, 0, 0), true);
    }

    private static void full() {
        CHECK.sentence("or there are 200 events");
        CleanMatrix x = Check.withThings(1, 1, 3);
        for (int event = 0; event < 199; event++) {
            x.cleaned(event % 2, 1, 5);
        }
        CHECK.due("the last of 200", x.told(0, 0, 3, 5), true);
        CHECK.due("it is there", x.may(0, 0, 3), 0);
        CHECK.due("one more", x.told(0, 0, 5, 5), false);
        CHECK.due("it is not there", x.level(0, 5), 1);
        CHECK.due("one more, of a thing without events", x.told(2, 0, 0, 0), false);
        CHECK.due("it is not there", x.may(2, 0, 0), 1);
        for (int thing = 0; thing < Twins.THINGS; thing++) {
            int one = thing;
            TWINS.refused("told(" + thing + ", 1, 7, 30)", Twins::fullOfEvents,
                y -> Twins.number(y.told(one, 1, 7, 30)), false);
        }
    }
}
