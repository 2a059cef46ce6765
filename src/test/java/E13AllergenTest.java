/** The edges of promise 13: kinds and bits at both ends, what was before, and refused ones. */
public final class E13AllergenTest {
    private static final Check CHECK = new Check();
    private static final Twins TWINS = new Twins(CHECK);

    public static void main(String[] args) {
        eachBit();
        leastAndMostBits();
        eachPair();
        atFirst();
        thoseBefore();
        noKind();
        otherBits();
        CHECK.end();
    }

    private static void eachBit() {
        CHECK.sentence("bit a for allergen a");
        for (int has = 0; has < 16; has++) {
            for (int lets = 0; lets < 16; lets++) {
                CleanMatrix x = Check.withThings(2, 1, 1);
                x.need(0, 1, 0);
                x.held(0, 0, 0);
                x.allergen(0, 1 << has);
                x.allergen(1, 1 << lets);
                CHECK.due(has + " before " + lets, x.may(0, 1, 0), has == lets ? 1 : 0);
            }
        }
    }

    private static void leastAndMostBits() {
        CHECK.sentence("0 .. 65,535");
        CleanMatrix x = Check.withThings(20, 1, 1);
        for (int kind : new int[] {0, 19}) {
            CHECK.due("0", x.allergen(kind, 0), 0);
            CHECK.due("1", x.allergen(kind, 1), 0);
            CHECK.due("65,534", x.allergen(kind, 65_534), 1);
            CHECK.due("65,535", x.allergen(kind, 65_535), 65_534);
            CHECK.due("0", x.allergen(kind, 0), 65_535);
        }
        x.need(0, 19, 0);
        x.held(0, 0, 0);
        x.allergen(0, 65_535);
        x.allergen(19, 65_535);
        CHECK.due("both have all", x.may(0, 19, 0), 1);
        x.allergen(19, 65_534);
        CHECK.due("the first is missing", x.may(0, 19, 0), 0);
        x.allergen(19, 32_767);
        CHECK.due("the last is missing", x.may(0, 19, 0), 0);
    }

    private static void eachPair() {
        CHECK.sentence("The allergens of a kind are these (and of no other)");
        for (int from = 0; from < 20; from++) {
            CleanMatrix x = Check.withThings(20, 9, 1);
            for (int kind = 0; kind < 20; kind++) {
                x.allergen(kind, bitsOf(kind));
                x.need(from, kind, kind % 9);
            }
            x.held(0, from, 0);
            for (int to = 0; to < 20; to++) {
                boolean lacks = (bitsOf(from) & ~bitsOf(to)) != 0;
                CHECK.due(to + " behind " + from, x.least(0, to, 0), lacks ? 9 : to % 9);
            }
        }
    }

    /** Some of these are parts of others, some are the same, and one is none. */
    private static int bitsOf(int kind) {
        return ((1 << (kind % 7)) - 1) << (2 * (kind % 5));
    }

    private static void atFirst() {
        CHECK.sentence("those before, 0 at first");
        for (int kinds : new int[] {1, 20}) {
            CleanMatrix x = new CleanMatrix(kinds, 1);
            for (int kind = 0; kind < kinds; kind++) {
                CHECK.due("kind " + kind, x.allergen(kind, 1000 + kind), 0);
            }
            for (int kind = 0; kind < kinds; kind++) {
                CHECK.due("kind " + kind + ", then", x.allergen(kind, 0), 1000 + kind);
            }
        }
    }

    private static void thoseBefore() {
        CHECK.sentence("The allergens of a kind are these: those before");
        CleanMatrix x = Check.withThings(2, 2, 1);
        x.need(0, 1, 0);
        x.held(0, 0, 0);
        CHECK.due("the first", x.allergen(0, 6), 0);
        CHECK.due("others, in their place and not beside them", x.allergen(0, 1), 6);
        x.allergen(1, 1);
        CHECK.due("only the new ones count", x.least(0, 1, 0), 0);
        CHECK.due("the same again", x.allergen(0, 1), 1);
        CHECK.due("none", x.allergen(1, 0), 1);
        CHECK.due("one is missing now", x.least(0, 1, 0), 2);
        CHECK.due("none", x.allergen(0, 0), 1);
        CHECK.due("none is missing now", x.least(0, 1, 0), 0);
    }

    private static void noKind() {
        CHECK.sentence("NONE, refused, when there is no such kind");
        for (int kind : Edge.outside(Twins.KINDS)) {
            for (int bits : new int[] {0, 4, 65_535}) {
                TWINS.refused("allergen(" + kind + ", " + bits + ")", Twins::ordinary,
                    x -> x.allergen(kind, bits), CleanMatrix.NONE);
            }
        }
    }

    private static void otherBits() {
        CHECK.sentence("NONE, refused, .. for other bits");
        for (int bits : Edge.outside(65_536)) {
            for (int kind = 0; kind < Twins.KINDS; kind++) {
                int one = kind;
                TWINS.refused("allergen(" + kind + ", " + bits + ")", Twins::ordinary,
                    x -> x.allergen(one, bits), CleanMatrix.NONE);
            }
        }
    }
}
