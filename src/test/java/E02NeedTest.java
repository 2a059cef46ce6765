/** The edges of promise 2: the first and last kinds and levels, and refused needs. */
public final class E02NeedTest {
    private static final Check CHECK = new Check();
    private static final Twins TWINS = new Twins(CHECK);

    public static void main(String[] args) {
        told();
        lastTold();
        eachPair();
        noKind();
        noLevel();
        CHECK.end();
    }

    private static void told() {
        CHECK.sentence("A need is told: true");
        for (int from : new int[] {0, 19}) {
            for (int to : new int[] {0, 19}) {
                for (int level = 0; level <= 9; level++) {
                    CleanMatrix x = Check.withThings(20, 9, 1);
                    CHECK.due("need", x.need(from, to, level), true);
                    x.held(0, from, 0);
                    CHECK.due("needs " + level, x.least(0, to, 0), level);
                    CHECK.due("another kind behind it", x.least(0, 7, 0), 9);
                    x.held(0, 19 - from, 0);
                    CHECK.due("behind another kind", x.least(0, to, 0), 9);
                }
            }
        }
        CleanMatrix y = Check.withThings(1, 1, 1);
        CHECK.due("of one kind and one level", y.need(0, 0, 1), true);
        CHECK.due("of one kind and no level", y.need(0, 0, 0), true);
    }

    private static void lastTold() {
        CHECK.sentence("the one that was told for these");
        CleanMatrix x = Check.withThings(2, 3, 1);
        x.held(0, 0, 0);
        int[] levels = {0, 3, 1, 0, 2};
        for (int level : levels) {
            x.need(0, 1, level);
            CHECK.due("told anew", x.least(0, 1, 0), level);
        }
    }

    private static void eachPair() {
        CHECK.sentence("the one that was told for these (and for no others)");
        for (int from = 0; from < 20; from++) {
            CleanMatrix x = Check.withThings(20, 9, 1);
            for (int pair = 0; pair < 400; pair++) {
                x.need(pair / 20, pair % 20, levelOf(pair / 20, pair % 20));
            }
            x.held(0, from, 0);
            for (int to = 0; to < 20; to++) {
                CHECK.due(to + " behind " + from, x.least(0, to, 0), levelOf(from, to));
            }
        }
    }

    private static int levelOf(int from, int to) {
        return (from * 7 + to * 3 + from * to) % 10;
    }

    private static void noKind() {
        CHECK.sentence("False, refused, when one is no kind");
        for (int kind : Edge.outside(Twins.KINDS)) {
            for (int level = 0; level <= Twins.LEVELS; level++) {
                int needed = level;
                TWINS.refused("need(" + kind + ", 1, " + level + ")", Twins::ordinary,
                    x -> Twins.number(x.need(kind, 1, needed)), false);
                TWINS.refused("need(1, " + kind + ", " + level + ")", Twins::ordinary,
                    x -> Twins.number(x.need(1, kind, needed)), false);
                TWINS.refused("need(" + kind + ", " + kind + ", " + level + ")", Twins::ordinary,
                    x -> Twins.number(x.need(kind, kind, needed)), false);
            }
        }
    }

    private static void noLevel() {
        CHECK.sentence("or the level none");
        for (int level : Edge.outside(0, Twins.LEVELS)) {
            for (int to = 0; to < Twins.KINDS; to++) {
                int kind = to;
                TWINS.refused("need(0, " + to + ", " + level + ")", Twins::ordinary,
                    x -> Twins.number(x.need(0, kind, level)), false);
            }
        }
    }
}
