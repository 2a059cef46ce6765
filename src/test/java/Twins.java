import java.util.ArrayList;
import java.util.List;

/**
 * Whether a call changes anything that a later call shows: of two objects with the same past,
 * one gets the call and the other does not, and both are asked the same.
 */
final class Twins {
    interface Past {
        CleanMatrix make();
    }

    interface Call {
        long on(CleanMatrix x);
    }

    /** Questions that leave out nothing of some part of what an object was told. */
    private interface Probe {
        void ask(CleanMatrix x, List<Long> answers);
    }

    static final int KINDS = 3;
    static final int LEVELS = 3;
    /** Things 0 and 1 are joined, 2 and 3 alone; 3 has no events. */
    static final int THINGS = 4;

    private static final Probe[] PROBES = {
        Twins::levels, Twins::mays, Twins::leasts, Twins::needs, Twins::lasting,
        (x, answers) -> costOf(x, answers, 1, 3, 2),
        (x, answers) -> costOf(x, answers, 2, 1, 3),
        (x, answers) -> costOf(x, answers, 3, 1, 2),
        Twins::allergens, Twins::groups, Twins::roomForThings, Twins::roomForEvents, Twins::hoursInTime};
    private static final long[] HOURS = {0, 4, 5, 6, 9, 10, 12, 15, 20, 21, 999_999, 1_000_000};

    private final Check check;

    Twins(Check check) {
        this.check = check;
    }

    void refused(String name, Past past, Call call, boolean due) {
        refused(name, past, call, due ? 1L : 0L);
    }

    void refused(String name, Past past, Call call, long due) {
        for (Probe probe : PROBES) {
            CleanMatrix without = past.make();
            CleanMatrix with = past.make();
            check.due(name, call.on(with), due);
            List<Long> expected = new ArrayList<>();
            List<Long> seen = new ArrayList<>();
            probe.ask(without, expected);
            probe.ask(with, seen);
            check.due(name + " changes nothing", seen.equals(expected), true);
        }
    }

    static long number(boolean answer) {
        return answer ? 1L : 0L;
    }

    /** A past in which every part has been told something, and none is full. */
    static CleanMatrix ordinary() {
        CleanMatrix x = Check.withThings(KINDS, LEVELS, THINGS);
        x.joinPipe(0, 1);
        x.need(0, 0, 0);
        x.need(0, 1, 1);
        x.need(1, 0, 2);
        x.need(2, 2, 2);
        x.hours(1, 0, 12);
        x.hours(2, 0, 7);
        x.hours(3, 1, 5);
        x.hours(2, 1, 9);
        x.cost(1, 5);
        x.cost(2, 7);
        x.cost(3, 6);
        x.allergen(0, 1);
        x.allergen(1, 3);
        x.held(0, 0, 5);
        x.cleaned(0, 3, 6);
        x.cleaned(1, 2, 5);
        x.held(2, 1, 10);
        x.cleaned(2, 2, 20);
        x.told(2, 0, 15, 20);
        return x;
    }

    /** The same, and then as many events as there can be. */
    static CleanMatrix fullOfEvents() {
        CleanMatrix x = ordinary();
        for (int event = 6; event < 200; event++) {
            x.cleaned(event % 3, 1 + event % 3, 20);
        }
        return x;
    }

    /** The same, and then as many things as there can be. */
    static CleanMatrix fullOfThings() {
        CleanMatrix x = ordinary();
        for (int thing = THINGS; thing < 32; thing++) {
            x.thing();
        }
        x.joinPipe(30, 31);
        return x;
    }

    private static void levels(CleanMatrix x, List<Long> answers) {
        for (int thing = 0; thing <= THINGS; thing++) {
            for (int hour = 0; hour < 45; hour++) {
                answers.add((long) x.level(thing, hour));
            }
        }
        answers.add((long) x.level(31, 0));
        answers.add((long) x.level(2, 1_000_000));
    }

    private static void mays(CleanMatrix x, List<Long> answers) {
        for (int thing = 0; thing < THINGS; thing++) {
            for (int kind = 0; kind <= KINDS; kind++) {
                for (long hour : HOURS) {
                    answers.add((long) x.may(thing, kind, hour));
                }
            }
        }
    }

    private static void leasts(CleanMatrix x, List<Long> answers) {
        for (int thing = 0; thing < THINGS; thing++) {
            for (int kind = 0; kind <= KINDS; kind++) {
                for (long hour : HOURS) {
                    answers.add((long) x.least(thing, kind, hour));
                }
            }
        }
    }

    private static void needs(CleanMatrix x, List<Long> answers) {
        for (int kind = 0; kind < KINDS; kind++) {
            x.allergen(kind, 0);
        }
        for (int level = 1; level <= LEVELS; level++) {
            x.cost(level, 0);
        }
        for (int from = 0; from < KINDS; from++) {
            x.held(3, from, 1_000_000);
            for (int to = -1; to <= KINDS; to++) {
                answers.add((long) x.least(3, to, 1_000_000));
            }
        }
    }

    private static void lasting(CleanMatrix x, List<Long> answers) {
        for (int level = 1; level <= LEVELS; level++) {
            long base = level * 1000L;
            for (int thing : new int[] {0, 1, 3}) {
                x.held(thing, 0, base);
                x.cleaned(thing, level, base);
            }
            for (int gone = 0; gone < 26; gone++) {
                answers.add((long) x.level(0, base + gone));
                answers.add((long) x.level(3, base + gone));
            }
        }
    }

    /** What a level costs, by another that is made dearer until it is no longer chosen. */
    private static void costOf(CleanMatrix x, List<Long> answers, int level, int other, int third) {
        x.need(0, 0, 1);
        x.cost(third, 1_000_000);
        for (int cents = 0; cents < 10; cents++) {
            x.cost(other, cents);
            answers.add((long) x.least(0, 0, 5) - level);
        }
    }

    private static void allergens(CleanMatrix x, List<Long> answers) {
        for (int kind = 0; kind <= KINDS; kind++) {
            answers.add((long) x.allergen(kind, 0));
        }
    }

    private static void groups(CleanMatrix x, List<Long> answers) {
        for (int thing = 24; thing < 32; thing++) {
            for (int other = 24; other < 32; other++) {
                answers.add(number(x.joinPipe(thing, other)));
            }
        }
        // What was joined to a thing before it was made would show now.
        x.thing();
        for (int thing = 0; thing <= THINGS; thing++) {
            for (int other = 0; other <= THINGS; other++) {
                answers.add(number(x.joinPipe(thing, other)));
            }
        }
    }

    private static void roomForThings(CleanMatrix x, List<Long> answers) {
        for (int call = 0; call < 33; call++) {
            answers.add((long) x.thing());
        }
    }

    private static void roomForEvents(CleanMatrix x, List<Long> answers) {
        for (int call = 0; call < 201; call++) {
            answers.add(number(x.held(call % THINGS, 0, 1_000_000)));
        }
    }

    /** The hours from which on each thing takes events. */
    private static void hoursInTime(CleanMatrix x, List<Long> answers) {
        for (int thing = 0; thing < THINGS; thing++) {
            for (int on = 0; on < 24; on++) {
                answers.add(number(x.told(thing, 0, 0, on)));
            }
            for (int hour = 0; hour < 24; hour++) {
                answers.add(number(x.cleaned(thing, 1, hour)));
            }
        }
    }
}
