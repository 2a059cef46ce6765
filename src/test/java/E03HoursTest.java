/** The edges of promise 3: levels, states and hours at both ends, and refused ones. */
public final class E03HoursTest {
    private static final Check CHECK = new Check();
    private static final Twins TWINS = new Twins(CHECK);

    public static void main(String[] args) {
        levelsAndStates();
        leastAndMostHours();
        hoursKeepApart();
        otherLevels();
        otherStates();
        otherHours();
        CHECK.end();
    }

    private static void levelsAndStates() {
        CHECK.sentence("How long a level (1 or more) lasts in a state (0 or 1): true");
        for (int levels : new int[] {1, 9}) {
            CleanMatrix x = Check.withThings(1, levels, 3);
            x.joinPipe(1, 2);
            for (int level = 1; level <= levels; level++) {
                CHECK.due("level " + level + ", state 0", x.hours(level, 0, 10 + level), true);
                CHECK.due("level " + level + ", state 1", x.hours(level, 1, 30 + level), true);
            }
            for (int level = 1; level <= levels; level++) {
                long base = 1000L * level;
                for (int thing = 0; thing < 3; thing++) {
                    x.held(thing, 0, base);
                    x.cleaned(thing, level, base);
                }
                CHECK.due("state 0, it lasts", x.level(0, base + 9 + level), level);
                CHECK.due("state 0, it has lasted", x.level(0, base + 10 + level), 0);
                CHECK.due("state 1, it lasts", x.level(1, base + 29 + level), level);
                CHECK.due("state 1, it has lasted", x.level(1, base + 30 + level), 0);
            }
        }
    }

    private static void leastAndMostHours() {
        CHECK.sentence("h is .. 0 .. 100,000");
        for (int state = 0; state < 2; state++) {
            CleanMatrix x = Check.withThings(1, 1, 2);
            if (state == 1) {
                x.joinPipe(0, 1);
            }
            x.cleaned(0, 1, 5);
            x.cleaned(1, 1, 5);
            CHECK.due("0", x.hours(1, state, 0), true);
            CHECK.due("it never lasts", x.level(0, 5), 0);
            CHECK.due("1", x.hours(1, state, 1), true);
            CHECK.due("at its hour alone", x.level(0, 5), 1);
            CHECK.due("at its hour alone", x.level(0, 6), 0);
            CHECK.due("99,999", x.hours(1, state, 99_999), true);
            CHECK.due("99,998 hours", x.level(0, 100_003), 1);
            CHECK.due("99,999 hours", x.level(0, 100_004), 0);
            CHECK.due("100,000", x.hours(1, state, 100_000), true);
            CHECK.due("99,999 hours", x.level(0, 100_004), 1);
            CHECK.due("100,000 hours", x.level(0, 100_005), 0);
        }
    }

    private static void hoursKeepApart() {
        CHECK.sentence("h is .. 0 .. 100,000 (each its own)");
        for (int h : Edge.widths(100_000)) {
            CleanMatrix x = Check.withThings(1, 1, 3);
            x.joinPipe(1, 2);
            x.hours(1, 0, h);
            x.hours(1, 1, h);
            for (int thing = 0; thing < 3; thing++) {
                x.cleaned(thing, 1, 0);
            }
            for (int gone : Edge.widths(1_000_000)) {
                CHECK.due(gone + " hours of " + h + ", alone", x.level(0, gone), gone < h ? 1 : 0);
                CHECK.due(gone + " hours of " + h + ", joined", x.level(1, gone), gone < h ? 1 : 0);
            }
        }
    }

    private static void otherLevels() {
        CHECK.sentence("False, refused, for another level");
        for (int level : Edge.outside(1, Twins.LEVELS)) {
            for (int state = 0; state < 2; state++) {
                int good = state;
                TWINS.refused("hours(" + level + ", " + state + ", 3)", Twins::ordinary,
                    x -> Twins.number(x.hours(level, good, 3)), false);
            }
        }
    }

    private static void otherStates() {
        CHECK.sentence("False, refused, for another .. state");
        for (int state : Edge.outside(2)) {
            for (int level = 0; level <= Twins.LEVELS + 1; level++) {
                int any = level;
                TWINS.refused("hours(" + level + ", " + state + ", 3)", Twins::ordinary,
                    x -> Twins.number(x.hours(any, state, 3)), false);
            }
        }
    }

    private static void otherHours() {
        CHECK.sentence("or when h is not 0 .. 100,000");
        for (int h : Edge.outside(100_001)) {
            for (int state = 0; state < 2; state++) {
                int good = state;
                TWINS.refused("hours(2, " + state + ", " + h + ")", Twins::ordinary,
                    x -> Twins.number(x.hours(2, good, h)), false);
            }
        }
    }
}
