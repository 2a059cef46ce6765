/** The edges of promise 1: too few, too many, and what is there before anything is told. */
public final class E01NewObjectTest {
    private static final Check CHECK = new Check();

    public static void main(String[] args) {
        kinds();
        levels();
        noNeeds();
        noHours();
        noCosts();
        noAllergens();
        noEvents();
        noThings();
        CHECK.end();
    }

    private static void kinds() {
        CHECK.sentence("So many kinds, but at least 1 and at most 20");
        int[][] askedAndDue = {{Integer.MIN_VALUE, 1}, {-20, 1}, {-1, 1}, {0, 1}, {1, 1}, {2, 2}, {7, 7},
            {19, 19}, {20, 20}, {21, 20}, {256, 20}, {65_537, 20}, {Integer.MAX_VALUE, 20}};
        for (int[] row : askedAndDue) {
            CleanMatrix x = Check.withThings(row[0], 3, 1);
            int seen = 0;
            for (int kind = 0; kind < 30; kind++) {
                seen += x.held(0, kind, kind) ? 1 : 0;
            }
            CHECK.due("CleanMatrix(" + row[0] + ", 3) has kinds", seen, row[1]);
            CHECK.due("the levels are not changed by it", x.least(0, 0, 50), 3);
        }
    }

    private static void levels() {
        CHECK.sentence("and levels, at least 1 and at most 9");
        int[][] askedAndDue = {{Integer.MIN_VALUE, 1}, {-9, 1}, {-1, 1}, {0, 1}, {1, 1}, {2, 2}, {5, 5},
            {8, 8}, {9, 9}, {10, 9}, {256, 9}, {65_537, 9}, {Integer.MAX_VALUE, 9}};
        for (int[] row : askedAndDue) {
            CleanMatrix x = Check.withThings(3, row[0], 1);
            int seen = 0;
            for (int level = 1; level < 30; level++) {
                seen += x.cleaned(0, level, 0) ? 1 : 0;
            }
            CHECK.due("CleanMatrix(3, " + row[0] + ") has levels", seen, row[1]);
            CHECK.due("the highest can be held", x.level(0, 0), row[1]);
            x.held(0, 0, 1);
            CHECK.due("the highest is needed", x.least(0, 0, 1), row[1]);
            CHECK.due("the kinds are not changed by it", x.held(0, 2, 1), true);
            CHECK.due("the kinds are not changed by it", x.held(0, 3, 1), false);
        }
    }

    private static void noNeeds() {
        CHECK.sentence("Nothing is told: no needs");
        for (int from = 0; from < 20; from++) {
            CleanMatrix x = Check.withThings(20, 9, 1);
            x.held(0, from, 0);
            for (int to = 0; to < 20; to++) {
                CHECK.due(to + " behind " + from, x.least(0, to, 0), 9);
            }
        }
    }

    private static void noHours() {
        CHECK.sentence("Nothing is told: no hours");
        for (int level = 1; level <= 9; level++) {
            CleanMatrix x = Check.withThings(1, 9, 3);
            x.joinPipe(1, 2);
            for (int thing = 0; thing < 3; thing++) {
                x.cleaned(thing, level, 1);
                CHECK.due("level " + level + " before 24 hours", x.level(0, 24), level);
                CHECK.due("level " + level + " behind 24 hours", x.level(0, 25), 0);
            }
            CHECK.due("level " + level + " before 24 hours, joined", x.level(1, 24), level);
            CHECK.due("level " + level + " behind 24 hours, joined", x.level(1, 25), 0);
        }
    }

    private static void noCosts() {
        CHECK.sentence("Nothing is told: no costs");
        CleanMatrix x = Check.withThings(1, 9, 1);
        x.need(0, 0, 1);
        x.held(0, 0, 0);
        for (int level = 1; level < 9; level++) {
            CHECK.due("the least of those that cost 0", x.least(0, 0, 0), level);
            x.cost(level, 1);
        }
        CHECK.due("the last that costs 0", x.least(0, 0, 0), 9);
        x.cost(9, 1);
        CHECK.due("all cost the same", x.least(0, 0, 0), 1);
    }

    private static void noAllergens() {
        CHECK.sentence("Nothing is told: no allergens");
        CleanMatrix x = Check.withThings(20, 1, 1);
        for (int kind = 0; kind < 20; kind++) {
            CHECK.due("allergens of " + kind, x.allergen(kind, 65_535), 0);
        }
    }

    private static void noEvents() {
        CHECK.sentence("Nothing is told: no events");
        CleanMatrix x = Check.withThings(2, 1, 32);
        for (int thing = 0; thing < 32; thing++) {
            CHECK.due("not clean", x.level(thing, 1_000_000), 0);
            CHECK.due("no content", x.may(thing, 1, 1_000_000), 1);
            CHECK.due("no content, no kind", x.may(thing, -1, 0), 1);
        }
        for (int event = 0; event < 200; event++) {
            CHECK.due("room for 200", x.cleaned(0, 1, 0), true);
        }
        CHECK.due("and no more", x.cleaned(0, 1, 0), false);
    }

    private static void noThings() {
        CHECK.sentence("no things");
        CleanMatrix x = new CleanMatrix(2, 2);
        CHECK.due("joinPipe(0, 0)", x.joinPipe(0, 0), false);
        CHECK.due("joinPipe(0, 1)", x.joinPipe(0, 1), false);
        CHECK.due("held(0, 0, 0)", x.held(0, 0, 0), false);
        CHECK.due("cleaned(0, 1, 0)", x.cleaned(0, 1, 0), false);
        CHECK.due("told(0, 0, 0, 0)", x.told(0, 0, 0, 0), false);
        CHECK.due("may(0, 0, 0)", x.may(0, 0, 0), CleanMatrix.NONE);
        CHECK.due("least(0, 0, 0)", x.least(0, 0, 0), CleanMatrix.NONE);
        CHECK.due("level(0, 0)", x.level(0, 0), CleanMatrix.NONE);
        CHECK.due("the first", x.thing(), 0);
        CHECK.due("what was refused before is not there", x.level(0, 0), 0);
        CHECK.due("what was refused before is not there", x.may(0, 1, 0), 1);
    }
}
