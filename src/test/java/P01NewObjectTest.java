/** Promise 1: numbers out of range are brought into it, and nothing is told. */
public final class P01NewObjectTest {
    private static final Check CHECK = new Check();

    public static void main(String[] args) {
        sizes(3, 4, 3, 4);
        sizes(1, 1, 1, 1);
        sizes(20, 9, 20, 9);
        sizes(0, 0, 1, 1);
        sizes(-1, -1, 1, 1);
        sizes(21, 10, 20, 9);
        sizes(Integer.MIN_VALUE, Integer.MAX_VALUE, 1, 9);
        sizes(Integer.MAX_VALUE, Integer.MIN_VALUE, 20, 1);
        nothingIsTold();
        objectsShareNothing();
        CHECK.end();
    }

    private static void sizes(int kinds, int levels, int kindsDue, int levelsDue) {
        String made = "CleanMatrix(" + kinds + ", " + levels + ")";
        CleanMatrix x = new CleanMatrix(kinds, levels);
        CHECK.due(made + " last kind", x.allergen(kindsDue - 1, 0), 0);
        CHECK.due(made + " kind too many", x.allergen(kindsDue, 0), CleanMatrix.NONE);
        CHECK.due(made + " last level", x.cost(levelsDue, 1), true);
        CHECK.due(made + " level too many", x.cost(levelsDue + 1, 1), false);
    }

    private static void nothingIsTold() {
        CleanMatrix x = new CleanMatrix(2, 5);
        CHECK.due("no things: level", x.level(0, 0), CleanMatrix.NONE);
        CHECK.due("no things: held", x.held(0, 0, 0), false);
        CHECK.due("first thing", x.thing(), 0);
        CHECK.due("no content: may", x.may(0, 0, 0), 1);
        CHECK.due("no cleaning: level", x.level(0, 0), 0);
        x.held(0, 0, 0);
        CHECK.due("no need told, not even for the same kind", x.least(0, 0, 0), 5);
        CHECK.due("no allergen told", x.allergen(0, 1), 0);
    }

    private static void objectsShareNothing() {
        CleanMatrix x = Check.withThings(2, 2, 2);
        CleanMatrix y = Check.withThings(2, 2, 1);
        x.held(0, 0, 0);
        x.need(0, 0, 0);
        CHECK.due("the other has no content", y.may(0, 1, 0), 1);
        CHECK.due("the other has one thing", y.thing(), 1);
        y.held(0, 0, 0);
        CHECK.due("the other was told no need", y.may(0, 0, 0), 0);
    }
}
