/** Promise 13: allergens of kinds. */
public final class P13AllergenTest {
    private static final Check CHECK = new Check();

    public static void main(String[] args) {
        thoseBefore();
        needsTheHighest();
        everyAllergen();
        wrongInputs();
        CHECK.end();
    }

    private static void thoseBefore() {
        CleanMatrix x = new CleanMatrix(2, 1);
        CHECK.due("allergen(0, 5)", x.allergen(0, 5), 0);
        CHECK.due("allergen(0, 65535)", x.allergen(0, 65_535), 5);
        CHECK.due("allergen(1, 2)", x.allergen(1, 2), 0);
        CHECK.due("allergen(0, 0)", x.allergen(0, 0), 65_535);
        CHECK.due("allergen(0, 0)", x.allergen(0, 0), 0);
        CHECK.due("allergen(1, 2)", x.allergen(1, 2), 2);
    }

    private static void needsTheHighest() {
        CleanMatrix x = Check.withThings(2, 3, 1);
        x.need(0, 0, 0);
        x.need(0, 1, 1);
        x.held(0, 0, 0);
        CHECK.due("no allergens", x.least(0, 1, 0), 1);
        x.allergen(0, 3);
        CHECK.due("allergens that the next has not", x.least(0, 1, 0), 3);
        CHECK.due("a kind has its own", x.least(0, 0, 0), 0);
        x.allergen(1, 1);
        CHECK.due("one that the next has not", x.least(0, 1, 0), 3);
        x.allergen(1, 7);
        CHECK.due("the next has these and more", x.least(0, 1, 0), 1);
        CHECK.due("no kind has none", x.least(0, 2, 0), 3);
        x.allergen(0, 0);
        x.allergen(1, 0);
        CHECK.due("taken back", x.least(0, 1, 0), 1);
    }

    private static void everyAllergen() {
        for (int allergen = 0; allergen < 16; allergen++) {
            CleanMatrix x = Check.withThings(2, 2, 1);
            x.need(0, 1, 0);
            x.held(0, 0, 0);
            x.allergen(0, 1 << allergen);
            x.allergen(1, 65_535 & ~(1 << allergen));
            CHECK.due("lacks allergen " + allergen, x.may(0, 1, 0), 0);
            x.allergen(1, 1 << allergen);
            CHECK.due("has allergen " + allergen, x.may(0, 1, 0), 1);
        }
    }

    private static void wrongInputs() {
        CleanMatrix x = new CleanMatrix(3, 1);
        x.allergen(2, 9);
        int[] noKinds = {-1, 3, 20, Integer.MIN_VALUE, Integer.MAX_VALUE};
        for (int kind : noKinds) {
            CHECK.due("allergen(" + kind + ", 1)", x.allergen(kind, 1), CleanMatrix.NONE);
        }
        int[] noBits = {-1, 65_536, Integer.MIN_VALUE, Integer.MAX_VALUE};
        for (int bits : noBits) {
            CHECK.due("allergen(2, " + bits + ")", x.allergen(2, bits), CleanMatrix.NONE);
        }
        CHECK.due("refused bits change nothing", x.allergen(2, 65_535), 9);
    }
}
