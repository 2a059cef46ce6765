/** The edges that the document names in its head, in "The public face" and in "Terms". */
public final class E00TermsTest {
    private static final Check CHECK = new Check();

    private interface OfNumber {
        long ask(CleanMatrix x, int number);
    }

    private interface OfHour {
        long ask(CleanMatrix x, long hour);
    }

    public static void main(String[] args) {
        constants();
        lastCall();
        lastCallOfEach();
        kinds();
        levels();
        things();
        hours();
        hoursKeepApart();
        groups();
        groupAlone();
        groupAloneWhenMadeLater();
        needsNotTold();
        needOfNoKind();
        needByAllergens();
        needByAllergensInAGroup();
        eventsOfAllThings();
        allElseWhenFullOfEvents();
        firstOfAllEvents();
        orderOfHours();
        orderOfAllEvents();
        orderInOneHour();
        holdsBehindTheLastContent();
        holdsEverWithoutContent();
        holdsKOrMore();
        holdsForFewerHours();
        lastingNotTold();
        lastingByState();
        levelNone();
        levelOfTheGroup();
        mayBehindEach();
        mayByTheGroupsLevel();
        mayBehindNone();
        CHECK.end();
    }

    private static void constants() {
        CHECK.sentence("NONE = -1; FULL = -2");
        CleanMatrix x = new CleanMatrix(1, 1);
        CHECK.due("NONE", CleanMatrix.NONE, -1);
        CHECK.due("FULL", CleanMatrix.FULL, -2);
        CHECK.due("level(0, 0)", x.level(0, 0), -1);
        for (int thing = 0; thing < 32; thing++) {
            x.thing();
        }
        CHECK.due("thing()", x.thing(), -2);
    }

    private static void lastCall() {
        CHECK.sentence("An object is used for at most 512 calls");
        CleanMatrix x = Check.withThings(1, 2, 32);
        for (int event = 0; event < 200; event++) {
            x.cleaned(event % 32, 2, event);
        }
        for (int call = 232; call < 508; call++) {
            x.may(call % 32, 0, call);
        }
        CHECK.due("call 509", x.level(7, 199), 2);
        CHECK.due("call 510", x.allergen(0, 9), 0);
        CHECK.due("call 511", x.hours(2, 0, 0), true);
        CHECK.due("call 512", x.level(7, 199), 1);
    }

    /** Calls that change nothing in the object of beforeTheLastCall(). */
    private static final Twins.Call[] IDLE = {
        x -> Twins.number(x.need(0, 0, 1)), x -> Twins.number(x.hours(1, 1, 24)), CleanMatrix::thing,
        x -> Twins.number(x.joinPipe(0, 1)), x -> Twins.number(x.held(0, 1, 5)),
        x -> Twins.number(x.cleaned(0, 0, 5)), x -> x.may(0, 0, 5), x -> x.least(0, 0, 5),
        x -> Twins.number(x.cost(1, 0)), x -> x.level(0, 5), x -> Twins.number(x.told(0, 0, 6, 5)),
        x -> x.allergen(0, 3)};

    private static CleanMatrix beforeTheLastCall(Twins.Call idle) {
        CleanMatrix x = Check.withThings(1, 2, 32);
        x.need(0, 0, 1);
        x.joinPipe(0, 1);
        x.held(0, 0, 5);
        x.cleaned(0, 1, 5);
        x.cleaned(1, 1, 5);
        x.allergen(0, 3);
        for (int call = 39; call < 512; call++) {
            idle.on(x);
        }
        return x;
    }

    private static void lastCallOfEach() {
        CHECK.sentence("at most 512 calls after it has been made");
        for (int each = 0; each < IDLE.length; each++) {
            Twins.Call idle = IDLE[each];
            String behind = " behind 473 calls of method " + each;
            CHECK.due("need" + behind, beforeTheLastCall(idle).need(0, 0, 2), true);
            CHECK.due("hours" + behind, beforeTheLastCall(idle).hours(2, 1, 7), true);
            CHECK.due("thing" + behind, beforeTheLastCall(idle).thing(), CleanMatrix.FULL);
            CHECK.due("joinPipe" + behind, beforeTheLastCall(idle).joinPipe(1, 2), true);
            CHECK.due("held" + behind, beforeTheLastCall(idle).held(0, 0, 5), true);
            CHECK.due("cleaned" + behind, beforeTheLastCall(idle).cleaned(0, 2, 5), true);
            CHECK.due("may" + behind, beforeTheLastCall(idle).may(0, 0, 28), 1);
            CHECK.due("least" + behind, beforeTheLastCall(idle).least(0, 0, 29), 1);
            CHECK.due("cost" + behind, beforeTheLastCall(idle).cost(2, 7), true);
            CHECK.due("level" + behind, beforeTheLastCall(idle).level(1, 5), 1);
            CHECK.due("told" + behind, beforeTheLastCall(idle).told(0, 0, 3, 5), true);
            CHECK.due("allergen" + behind, beforeTheLastCall(idle).allergen(0, 9), 3);
        }
    }

    private static void kinds() {
        CHECK.sentence("KINDS of contents are 0 .. kinds - 1");
        OfNumber[] asks = {
            (x, kind) -> Twins.number(x.need(kind, 0, 1)),
            (x, kind) -> Twins.number(x.need(0, kind, 1)),
            (x, kind) -> Twins.number(x.held(0, kind, 0)),
            (x, kind) -> Twins.number(x.told(0, kind, 0, 0)),
            (x, kind) -> x.allergen(kind, 0) + 1L};
        for (int kinds : new int[] {1, 2, 19, 20}) {
            for (int method = 0; method < asks.length; method++) {
                String call = "method " + method + " of " + kinds + " kinds, ";
                CleanMatrix x = Check.withThings(kinds, 1, 1);
                CHECK.due(call + "the first", asks[method].ask(x, 0), 1);
                CHECK.due(call + "the last", asks[method].ask(x, kinds - 1), 1);
                for (int kind : Edge.outside(kinds)) {
                    CHECK.due(call + kind, asks[method].ask(x, kind), 0);
                }
            }
        }
    }

    private static void levels() {
        CHECK.sentence("LEVELS of cleaning 0 .. levels; 0 is none");
        OfNumber[] asks = {
            (x, level) -> Twins.number(x.hours(level, 0, 5)),
            (x, level) -> Twins.number(x.hours(level, 1, 5)),
            (x, level) -> Twins.number(x.cleaned(0, level, 0)),
            (x, level) -> Twins.number(x.cost(level, 5))};
        for (int levels : new int[] {1, 2, 8, 9}) {
            CleanMatrix x = Check.withThings(1, levels, 1);
            CHECK.due("need of none, of " + levels, x.need(0, 0, 0), true);
            CHECK.due("need of the first, of " + levels, x.need(0, 0, 1), true);
            CHECK.due("need of the last, of " + levels, x.need(0, 0, levels), true);
            for (int level : Edge.outside(0, levels)) {
                CHECK.due("need of " + level + ", of " + levels, x.need(0, 0, level), false);
            }
            for (int method = 0; method < asks.length; method++) {
                String call = "method " + method + " of " + levels + " levels, ";
                CHECK.due(call + "the first", asks[method].ask(x, 1), 1);
                CHECK.due(call + "the last", asks[method].ask(x, levels), 1);
                for (int level : Edge.outside(1, levels)) {
                    CHECK.due(call + level, asks[method].ask(x, level), 0);
                }
            }
        }
    }

    private static void things() {
        CHECK.sentence("THINGS are numbered from 0, at most 32");
        OfNumber[] asks = {
            (x, thing) -> Twins.number(x.held(thing, 0, 0)),
            (x, thing) -> Twins.number(x.cleaned(thing, 1, 0)),
            (x, thing) -> Twins.number(x.told(thing, 0, 0, 0)),
            (x, thing) -> x.may(thing, 0, 0) == CleanMatrix.NONE ? 0 : 1,
            (x, thing) -> x.least(thing, 0, 0) == CleanMatrix.NONE ? 0 : 1,
            (x, thing) -> x.level(thing, 0) == CleanMatrix.NONE ? 0 : 1};
        for (int things : new int[] {0, 1, 2, 31, 32}) {
            CleanMatrix x = Check.withThings(1, 1, things);
            for (int method = 0; method < asks.length; method++) {
                String call = "method " + method + " of " + things + " things, ";
                for (int thing = 0; thing < things; thing++) {
                    CHECK.due(call + thing, asks[method].ask(x, thing), 1);
                }
                for (int thing : Edge.outside(things)) {
                    CHECK.due(call + thing, asks[method].ask(x, thing), 0);
                }
            }
            CHECK.due("one more behind " + things, x.thing(), things < 32 ? things : CleanMatrix.FULL);
        }
    }

    private static void hours() {
        CHECK.sentence("Hours are 0 .. 1,000,000");
        OfHour[] asks = {
            (x, hour) -> Twins.number(x.held(0, 0, hour)),
            (x, hour) -> Twins.number(x.cleaned(0, 1, hour)),
            (x, hour) -> Twins.number(x.told(0, 0, hour, 1_000_000)),
            (x, hour) -> Twins.number(x.told(0, 0, 0, hour)),
            (x, hour) -> Twins.number(x.told(0, 0, hour, hour)),
            (x, hour) -> x.may(0, 0, hour) == CleanMatrix.NONE ? 0 : 1,
            (x, hour) -> x.least(0, 0, hour) == CleanMatrix.NONE ? 0 : 1,
            (x, hour) -> x.level(0, hour) == CleanMatrix.NONE ? 0 : 1};
        for (int method = 0; method < asks.length; method++) {
            String call = "method " + method + ", ";
            CleanMatrix x = Check.withThings(1, 1, 1);
            for (long hour : new long[] {0, 1, 999_999, 1_000_000}) {
                CHECK.due(call + hour, asks[method].ask(x, hour), 1);
            }
            CleanMatrix y = Check.withThings(1, 1, 1);
            for (long hour : Edge.noHours()) {
                CHECK.due(call + hour, asks[method].ask(y, hour), 0);
            }
        }
    }

    private static void hoursKeepApart() {
        CHECK.sentence("Hours are 0 .. 1,000,000 (each its own)");
        for (int hour : Edge.widths(1_000_000)) {
            CleanMatrix x = Check.withThings(1, 1, 3);
            x.held(0, 0, hour);
            x.cleaned(1, 1, hour);
            x.told(2, 0, hour, 1_000_000);
            for (int asked : Edge.widths(1_000_000)) {
                String call = "of hour " + hour + ", at hour " + asked;
                CHECK.due("a content " + call, x.may(0, 0, asked), asked < hour ? 1 : 0);
                CHECK.due("a cleaning " + call, x.level(1, asked), asked >= hour && asked < hour + 24 ? 1 : 0);
                CHECK.due("a content told late " + call, x.may(2, 0, asked), asked < hour ? 1 : 0);
            }
        }
    }

    private static void groups() {
        CHECK.sentence("those that are joined, also over others, are a GROUP");
        CleanMatrix x = Check.withThings(1, 1, 32);
        for (int thing = 1; thing < 32; thing++) {
            x.joinPipe(thing - 1, thing);
        }
        CHECK.due("first and last, over 30 others", x.joinPipe(0, 31), false);
        x.held(31, 0, 3);
        CHECK.due("the last's content, seen from the first", x.may(0, 0, 3), 0);
        for (int thing = 0; thing < 31; thing++) {
            x.cleaned(thing, 1, 3);
        }
        CHECK.due("one of 32 is not clean", x.level(0, 3), 0);
        x.cleaned(31, 1, 3);
        CHECK.due("all 32 are clean", x.level(0, 3), 1);
    }

    private static void groupAlone() {
        CHECK.sentence("one that is joined to none is a group alone");
        CleanMatrix x = Check.withThings(1, 1, 3);
        x.joinPipe(0, 1);
        x.joinPipe(2, 2);
        x.hours(1, 0, 2);
        x.hours(1, 1, 1);
        x.held(0, 0, 0);
        x.cleaned(2, 1, 0);
        CHECK.due("the others' contents do not count", x.may(2, 0, 9), 1);
        CHECK.due("it lasts as one alone", x.level(2, 1), 1);
        CHECK.due("it lasts no longer", x.level(2, 2), 0);
    }

    private static void groupAloneWhenMadeLater() {
        CHECK.sentence("one that is joined to none is a group alone (made when others are joined)");
        CleanMatrix x = Check.withThings(1, 1, 2);
        for (int made = 2; made < 32; made++) {
            x.joinPipe(made - 2, made - 1);
            x.held(made - 1, 0, 0);
            x.thing();
            CHECK.due("no content of its own, " + made, x.may(made, 0, 0), 1);
            x.cleaned(made, 1, 0);
            CHECK.due("clean by itself, " + made, x.level(made, 0), 1);
            CHECK.due("the others are not, " + made, x.level(made - 1, 0), 0);
        }
        CHECK.due("two groups still", x.joinPipe(0, 31), true);
    }

    private static void needsNotTold() {
        CHECK.sentence("the highest when none was told");
        for (int from = 0; from < 20; from++) {
            CleanMatrix x = Check.withThings(20, 7, 1);
            x.need(from, 5, 0);
            x.held(0, from, 0);
            for (int to = 0; to < 20; to++) {
                CHECK.due("least of " + to + " behind " + from, x.least(0, to, 0), to == 5 ? 0 : 7);
            }
        }
    }

    private static void needOfNoKind() {
        CHECK.sentence("the highest when .. t is no kind; a t that is no kind has none");
        for (int kind : Edge.outside(3)) {
            CleanMatrix x = Check.withThings(3, 4, 1);
            for (int to = 0; to < 3; to++) {
                x.need(0, to, 0);
            }
            x.held(0, 0, 0);
            CHECK.due("without allergens, " + kind, x.least(0, kind, 0), 4);
            x.allergen(0, 1);
            CHECK.due("behind an allergen, " + kind, x.least(0, kind, 0), 4);
            x.cleaned(0, 3, 0);
            CHECK.due("one below the highest, " + kind, x.may(0, kind, 0), 0);
            x.cleaned(0, 4, 0);
            CHECK.due("the highest, " + kind, x.may(0, kind, 0), 1);
        }
    }

    private static void needByAllergens() {
        CHECK.sentence("the highest when f has an allergen that t has not (0 .. 15)");
        for (int allergen = 0; allergen < 16; allergen++) {
            CleanMatrix x = Check.withThings(2, 3, 1);
            x.need(0, 1, 1);
            x.held(0, 0, 0);
            x.allergen(1, 1 << allergen);
            CHECK.due("only t has " + allergen, x.least(0, 1, 0), 1);
            x.allergen(0, 1 << allergen);
            CHECK.due("both have " + allergen, x.least(0, 1, 0), 1);
            x.allergen(1, 65_535 - (1 << allergen));
            CHECK.due("t has all but " + allergen, x.least(0, 1, 0), 3);
            x.allergen(0, 65_535);
            CHECK.due("f has all, t all but " + allergen, x.least(0, 1, 0), 3);
            x.allergen(1, 65_535);
            CHECK.due("both have all", x.least(0, 1, 0), 1);
        }
    }

    private static void needByAllergensInAGroup() {
        CHECK.sentence("the highest when f has an allergen that t has not (f in another thing)");
        CleanMatrix x = Check.withThings(3, 3, 3);
        x.joinPipe(0, 1);
        x.joinPipe(1, 2);
        x.need(0, 1, 0);
        x.need(2, 1, 1);
        x.held(0, 0, 0);
        x.held(2, 2, 0);
        for (int thing = 0; thing < 3; thing++) {
            CHECK.due("without allergens, seen from " + thing, x.least(thing, 1, 0), 1);
        }
        x.allergen(0, 4);
        for (int thing = 0; thing < 3; thing++) {
            CHECK.due("an allergen in the first, seen from " + thing, x.least(thing, 1, 0), 3);
            CHECK.due("an allergen in the first, seen from " + thing, x.may(thing, 1, 0), 0);
        }
        x.allergen(1, 4);
        CHECK.due("the kind has it too", x.least(1, 1, 0), 1);
    }

    private static void allElseWhenFullOfEvents() {
        CHECK.sentence("at most 200 of all things together (all else goes on)");
        CleanMatrix x = Check.withThings(2, 2, 2);
        x.held(0, 0, 0);
        for (int event = 1; event < 200; event++) {
            x.cleaned(1, 2, 0);
        }
        CHECK.due("full", x.cleaned(1, 2, 0), false);
        CHECK.due("thing()", x.thing(), 2);
        CHECK.due("it is alone", x.may(2, 0, 0), 1);
        CHECK.due("it has no events", x.level(2, 0), 0);
        CHECK.due("need", x.need(0, 1, 1), true);
        CHECK.due("the need counts", x.least(0, 1, 0), 1);
        CHECK.due("cost", x.cost(1, 5), true);
        CHECK.due("the cost counts", x.least(0, 1, 0), 2);
        CHECK.due("hours", x.hours(2, 0, 30), true);
        CHECK.due("the hours count", x.level(1, 29), 2);
        CHECK.due("allergen", x.allergen(1, 8), 0);
        CHECK.due("allergen", x.allergen(0, 9), 0);
        CHECK.due("the allergens count", x.least(0, 1, 0), 2);
        CHECK.due("joinPipe", x.joinPipe(1, 0), true);
        CHECK.due("the pipe counts", x.level(1, 0), 0);
        CHECK.due("the pipe counts", x.may(1, 1, 0), 0);
    }

    private static void firstOfAllEvents() {
        CHECK.sentence("at most 200 of all things together (the first counts behind 199 others)");
        CleanMatrix x = Check.withThings(2, 3, 1);
        x.need(0, 1, 1);
        x.held(0, 0, 3);
        for (int event = 1; event < 200; event++) {
            x.cleaned(0, 1, 7);
        }
        CHECK.due("the only content", x.may(0, 0, 7), 0);
        CHECK.due("the only content", x.may(0, 1, 7), 1);
        CHECK.due("before the cleanings", x.least(0, 1, 3), 1);
        CHECK.due("before all", x.least(0, 1, 2), 0);

        CleanMatrix y = Check.withThings(1, 3, 1);
        y.cleaned(0, 3, 3);
        for (int event = 1; event < 200; event++) {
            y.cleaned(0, 1, 7);
        }
        CHECK.due("the only high cleaning", y.level(0, 7), 3);
        CHECK.due("before the others", y.level(0, 3), 3);
        CHECK.due("before all", y.level(0, 2), 0);
    }

    private static void eventsOfAllThings() {
        CHECK.sentence("at most 200 of all things together");
        CleanMatrix x = Check.withThings(2, 2, 32);
        for (int event = 0; event < 200; event++) {
            CHECK.due("event " + event, anEvent(x, event, event % 32), true);
        }
        for (int event = 200; event < 203; event++) {
            CHECK.due("a thing with events, event " + event, anEvent(x, event, 0), false);
            CHECK.due("the last thing, event " + event, anEvent(x, event, 31), false);
        }
    }

    private static boolean anEvent(CleanMatrix x, int event, int thing) {
        switch (event % 3) {
            case 0: return x.held(thing, 0, event);
            case 1: return x.cleaned(thing, 1, event);
            default: return x.told(thing, 1, 0, event);
        }
    }

    private static void orderOfHours() {
        CHECK.sentence("they happen in the order of their hours");
        CleanMatrix x = Check.withThings(3, 3, 1);
        x.need(0, 0, 0);
        x.need(1, 0, 1);
        x.need(2, 0, 2);
        x.told(0, 2, 30, 40);
        x.told(0, 0, 10, 40);
        x.told(0, 1, 20, 40);
        int[] due = {0, 0, 1, 2};
        for (int place = 0; place < 4; place++) {
            CHECK.due("from its hour on", x.least(0, 0, place * 10L), due[place]);
            CHECK.due("up to the next", x.least(0, 0, place * 10L + 9), due[place]);
        }
    }

    private static void orderOfAllEvents() {
        CHECK.sentence("they happen in the order of their hours (all 200 of one thing)");
        CleanMatrix x = Check.withThings(10, 9, 1);
        for (int from = 0; from < 10; from++) {
            x.need(from, 0, from);
        }
        // 77 and 200 have no divisor in common, so every hour comes just once.
        for (int event = 0; event < 200; event++) {
            int hour = event * 77 % 200;
            CHECK.due("hour " + hour, x.told(0, hour % 10, hour, 500), true);
        }
        for (int hour = 0; hour < 200; hour++) {
            CHECK.due("the content of hour " + hour, x.least(0, 0, hour), hour % 10);
        }
    }

    private static void orderInOneHour() {
        CHECK.sentence("of one hour in the order in which they were told");
        CleanMatrix x = Check.withThings(2, 2, 1);
        x.need(0, 0, 1);
        x.need(1, 0, 2);
        x.cleaned(0, 2, 0);
        CHECK.due("a cleaning", x.level(0, 0), 2);
        x.held(0, 0, 0);
        CHECK.due("a content behind it", x.level(0, 0), 0);
        x.cleaned(0, 1, 0);
        CHECK.due("a cleaning behind that", x.level(0, 0), 1);
        x.told(0, 1, 0, 7);
        CHECK.due("a content told late behind that", x.least(0, 0, 0), 2);
        x.told(0, 0, 0, 5);
        CHECK.due("and one told behind it, on an earlier hour", x.least(0, 0, 0), 1);
        x.cleaned(0, 2, 0);
        CHECK.due("and a cleaning", x.level(0, 0), 2);
    }

    private static void holdsBehindTheLastContent() {
        CHECK.sentence("behind its last content up to that hour .. it was cleaned, up to that hour");
        CleanMatrix x = Check.withThings(1, 3, 1);
        x.cleaned(0, 3, 10);
        x.held(0, 0, 12);
        x.cleaned(0, 2, 14);
        x.held(0, 0, 16);
        int[] due = {0, 3, 3, 0, 0, 2, 2, 0, 0};
        for (int place = 0; place < due.length; place++) {
            CHECK.due("hour " + (9 + place), x.level(0, 9 + place), due[place]);
        }
    }

    private static void holdsEverWithoutContent() {
        CHECK.sentence("or ever, when it has none");
        CleanMatrix x = Check.withThings(1, 2, 1);
        x.hours(2, 0, 100_000);
        x.cleaned(0, 2, 0);
        x.cleaned(0, 1, 50_000);
        CHECK.due("the first of all events counts", x.level(0, 99_999), 2);
        CHECK.due("until it has lasted", x.level(0, 100_000), 0);
    }

    private static void holdsKOrMore() {
        CHECK.sentence("cleaned .. with level k or more, and fewer hours went by than level k lasts");
        CleanMatrix x = Check.withThings(1, 3, 1);
        x.hours(3, 0, 2);
        x.hours(2, 0, 4);
        x.hours(1, 0, 6);
        x.cleaned(0, 3, 0);
        int[] due = {3, 3, 2, 2, 1, 1, 0};
        for (int hour = 0; hour < due.length; hour++) {
            CHECK.due("cleaned with 3, hour " + hour, x.level(0, hour), due[hour]);
        }
        CleanMatrix y = Check.withThings(1, 3, 1);
        y.hours(3, 0, 9);
        y.hours(1, 0, 2);
        y.cleaned(0, 1, 0);
        CHECK.due("cleaned with 1, a higher one is not held", y.level(0, 0), 1);
        CHECK.due("cleaned with 1, a higher one does not make it last", y.level(0, 2), 0);
    }

    private static void holdsForFewerHours() {
        CHECK.sentence("since then fewer hours went by than level k lasts");
        for (int lasts : new int[] {0, 1, 2, 23, 24, 25, 100_000}) {
            CleanMatrix x = Check.withThings(1, 1, 1);
            x.hours(1, 0, lasts);
            x.cleaned(0, 1, 900_000);
            CHECK.due("at once, of " + lasts, x.level(0, 900_000), lasts > 0 ? 1 : 0);
            CHECK.due("one fewer than " + lasts, x.level(0, 899_999 + lasts), lasts > 0 ? 1 : 0);
            CHECK.due("as many as " + lasts, x.level(0, 900_000 + lasts), 0);
        }
    }

    private static void lastingNotTold() {
        CHECK.sentence("LASTING: of each level and state the hours that were told, 24 when none were");
        for (int level = 1; level <= 9; level++) {
            CleanMatrix x = Check.withThings(1, 9, 3);
            x.joinPipe(1, 2);
            for (int thing = 0; thing < 3; thing++) {
                x.cleaned(thing, level, 0);
            }
            for (int thing = 0; thing < 2; thing++) {
                CHECK.due("level " + level + ", 23 hours, state " + thing, x.level(thing, 23), level);
                CHECK.due("level " + level + ", 24 hours, state " + thing, x.level(thing, 24), 0);
            }
            x.hours(level, 0, 3);
            CHECK.due("told for one alone", x.level(0, 23), level - 1);
            CHECK.due("not told for the greater one", x.level(1, 23), level);
            x.hours(level, 1, 25);
            CHECK.due("told for the greater one", x.level(1, 24), level);
            CHECK.due("not told anew for one alone", x.level(0, 2), level);
            CHECK.due("not told anew for one alone", x.level(0, 3), level - 1);
        }
    }

    private static void lastingByState() {
        CHECK.sentence("state (0 a group of one, 1 a greater one)");
        int[][] pairs = {{0, 1}, {1, 0}, {0, 31}, {30, 31}, {15, 16}};
        for (int[] pair : pairs) {
            CleanMatrix x = Check.withThings(1, 1, 32);
            x.hours(1, 0, 5);
            x.hours(1, 1, 9);
            for (int thing = 0; thing < 32; thing++) {
                x.cleaned(thing, 1, 0);
            }
            x.joinPipe(pair[0], pair[1]);
            for (int thing = 0; thing < 32; thing++) {
                int lasts = thing == pair[0] || thing == pair[1] ? 9 : 5;
                CHECK.due("it lasts, seen from " + thing, x.level(thing, lasts - 1), 1);
                CHECK.due("it has lasted, seen from " + thing, x.level(thing, lasts), 0);
            }
        }
        CleanMatrix all = Check.withThings(1, 1, 32);
        all.hours(1, 1, 9);
        for (int thing = 0; thing < 32; thing++) {
            all.joinPipe(thing, 16);
            all.cleaned(thing, 1, 0);
        }
        CHECK.due("the greatest, it lasts", all.level(0, 8), 1);
        CHECK.due("the greatest, it has lasted", all.level(31, 9), 0);
    }

    private static void levelNone() {
        CHECK.sentence("the greatest that it holds, 0 when it holds none");
        CleanMatrix x = Check.withThings(1, 9, 1);
        CHECK.due("no events", x.level(0, 0), 0);
        x.held(0, 0, 1);
        CHECK.due("a content alone", x.level(0, 1), 0);
        x.cleaned(0, 9, 2);
        CHECK.due("before the cleaning", x.level(0, 1), 0);
        CHECK.due("the highest", x.level(0, 2), 9);
        CHECK.due("far behind it", x.level(0, 1_000_000), 0);
    }

    private static void levelOfTheGroup() {
        CHECK.sentence("that of its group is the least of its things'");
        CleanMatrix x = Check.withThings(1, 9, 3);
        x.joinPipe(0, 1);
        x.joinPipe(2, 1);
        x.cleaned(0, 9, 0);
        x.cleaned(1, 8, 0);
        for (int thing = 0; thing < 3; thing++) {
            CHECK.due("one holds none, seen from " + thing, x.level(thing, 0), 0);
        }
        x.cleaned(2, 1, 0);
        for (int thing = 0; thing < 3; thing++) {
            CHECK.due("one holds 1, seen from " + thing, x.level(thing, 0), 1);
        }
        x.cleaned(2, 9, 0);
        for (int thing = 0; thing < 3; thing++) {
            CHECK.due("the least is another, seen from " + thing, x.level(thing, 0), 8);
        }
    }

    private static void mayBehindEach() {
        CHECK.sentence("at least what it needs behind the last content, up to that hour, of each thing");
        CleanMatrix x = Check.withThings(3, 3, 3);
        x.need(0, 2, 1);
        x.need(1, 2, 2);
        x.joinPipe(0, 1);
        x.joinPipe(1, 2);
        x.held(0, 0, 0);
        x.held(0, 1, 5);
        x.held(1, 0, 1);
        for (int thing = 0; thing < 3; thing++) {
            x.cleaned(thing, 2, 6);
        }
        CHECK.due("just what the most needs", x.may(2, 2, 6), 1);
        CHECK.due("not yet cleaned", x.may(2, 2, 5), 0);
        x.told(1, 1, 1, 7);
        CHECK.due("the last of one hour counts", x.least(2, 2, 4), 2);
        x.hours(2, 1, 1);
        CHECK.due("one level less than needed", x.may(2, 2, 7), 0);
    }

    private static void mayByTheGroupsLevel() {
        CHECK.sentence("when the group's level then is at least what it needs");
        for (int levels : new int[] {1, 3}) {
            CleanMatrix x = Check.withThings(1, levels, 2);
            x.joinPipe(0, 1);
            x.held(0, 0, 0);
            x.cleaned(0, levels, 1);
            for (int thing = 0; thing < 2; thing++) {
                CHECK.due("one without content is not clean, seen from " + thing, x.may(thing, 0, 1), 0);
                CHECK.due("one without content is not clean, seen from " + thing, x.least(thing, 0, 1), levels);
            }
            x.cleaned(1, levels, 1);
            CHECK.due("both are clean", x.may(0, 0, 1), 1);
        }
        CleanMatrix y = Check.withThings(3, 3, 2);
        y.need(0, 2, 1);
        y.need(1, 2, 3);
        y.joinPipe(0, 1);
        y.held(0, 0, 0);
        y.held(1, 1, 0);
        y.cleaned(0, 1, 1);
        y.cleaned(1, 3, 1);
        CHECK.due("each is clean enough for its own content alone", y.may(0, 2, 1), 0);
        CHECK.due("each is clean enough for its own content alone", y.least(1, 2, 1), 3);
    }

    private static void mayBehindNone() {
        CHECK.sentence("of each thing of the group that has one");
        CleanMatrix x = Check.withThings(1, 1, 2);
        x.joinPipe(0, 1);
        CHECK.due("none has one", x.may(0, 0, 1_000_000), 1);
        x.held(1, 0, 8);
        CHECK.due("none has one up to that hour", x.may(0, 0, 7), 1);
        CHECK.due("one has one", x.may(0, 0, 8), 0);
        x.need(0, 0, 0);
        CHECK.due("level 0 is at least 0", x.may(0, 0, 8), 1);
    }
}
