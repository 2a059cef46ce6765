/** The edges of promise 10: levels and cents at both ends, untold costs, and refused ones. */
public final class E10CostTest {
    private static final Check CHECK = new Check();
    private static final Twins TWINS = new Twins(CHECK);

    public static void main(String[] args) {
        firstAndLastLevel();
        leastAndMostCents();
        centsKeepApart();
        notTold();
        otherLevels();
        otherCents();
        CHECK.end();
    }

    private static void firstAndLastLevel() {
        CHECK.sentence("What a level (1 or more) costs");
        CleanMatrix x = Check.withThings(1, 9, 1);
        x.need(0, 0, 1);
        x.held(0, 0, 0);
        for (int level = 1; level <= 9; level++) {
            CHECK.due("level " + level, x.cost(level, 100 - level), true);
        }
        CHECK.due("the last is the cheapest", x.least(0, 0, 0), 9);
        CHECK.due("the first told anew", x.cost(1, 90), true);
        CHECK.due("the first is the cheapest", x.least(0, 0, 0), 1);
        CleanMatrix y = Check.withThings(1, 1, 1);
        CHECK.due("the only level", y.cost(1, 0), true);
        CHECK.due("one more than the only level", y.cost(2, 0), false);
    }

    private static void leastAndMostCents() {
        CHECK.sentence("0 .. 1,000,000");
        CleanMatrix x = Check.withThings(1, 2, 1);
        x.need(0, 0, 1);
        x.held(0, 0, 0);
        CHECK.due("the most", x.cost(1, 1_000_000), true);
        CHECK.due("one less", x.cost(2, 999_999), true);
        CHECK.due("one less is cheaper than the most", x.least(0, 0, 0), 2);
        CHECK.due("the most", x.cost(2, 1_000_000), true);
        CHECK.due("both cost the most", x.least(0, 0, 0), 1);
        CHECK.due("1", x.cost(1, 1), true);
        CHECK.due("0", x.cost(2, 0), true);
        CHECK.due("0 is cheaper than 1", x.least(0, 0, 0), 2);
        CHECK.due("0", x.cost(1, 0), true);
        CHECK.due("both cost 0", x.least(0, 0, 0), 1);
    }

    private static void centsKeepApart() {
        CHECK.sentence("0 .. 1,000,000 (each its own)");
        for (int low : Edge.widths(1_000_000)) {
            CleanMatrix x = Check.withThings(1, 2, 1);
            x.need(0, 0, 1);
            x.held(0, 0, 0);
            for (int other : Edge.widths(1_000_000)) {
                x.cost(1, low);
                x.cost(2, other);
                CHECK.due("1 for " + low + ", 2 for " + other, x.least(0, 0, 0), other < low ? 2 : 1);
            }
        }
    }

    private static void notTold() {
        CHECK.sentence("0 when it was not told");
        for (int untold = 2; untold <= 9; untold++) {
            CleanMatrix x = Check.withThings(1, 9, 1);
            x.need(0, 0, 1);
            x.held(0, 0, 0);
            for (int level = 1; level <= 9; level++) {
                if (level != untold) {
                    x.cost(level, 1);
                }
            }
            CHECK.due("the one that was not told", x.least(0, 0, 0), untold);
            x.cost(1, 0);
            CHECK.due("costs no less than 0", x.least(0, 0, 0), 1);
        }
    }

    private static void otherLevels() {
        CHECK.sentence("False, refused, for other numbers: the level");
        for (int level : Edge.outside(1, Twins.LEVELS)) {
            for (long cents : new long[] {0, 1, 1_000_000}) {
                TWINS.refused("cost(" + level + ", " + cents + ")", Twins::ordinary,
                    x -> Twins.number(x.cost(level, cents)), false);
            }
        }
    }

    private static void otherCents() {
        CHECK.sentence("False, refused, for other numbers: the cents");
        for (long cents : Edge.outside(1_000_000L)) {
            for (int level = 0; level <= Twins.LEVELS; level++) {
                int one = level;
                TWINS.refused("cost(" + level + ", " + cents + ")", Twins::ordinary,
                    x -> Twins.number(x.cost(one, cents)), false);
            }
        }
    }
}
