/** Promise 4: things are numbered from 0, at most 32. */
public final class P04ThingTest {
    public static void main(String[] args) {
        Check check = new Check();
        CleanMatrix x = new CleanMatrix(1, 1);
        for (int thing = 0; thing < 32; thing++) {
            check.due("not yet a thing", x.level(thing, 0), CleanMatrix.NONE);
            check.due("thing()", x.thing(), thing);
            check.due("now a thing", x.level(thing, 0), 0);
            check.due("a new thing is alone", x.cleaned(thing, 1, 0), true);
            check.due("a new thing is alone", x.level(thing, 0), 1);
        }
        for (int more = 0; more < 3; more++) {
            check.due("thing() when full", x.thing(), CleanMatrix.FULL);
        }
        check.due("no thing 32", x.level(32, 0), CleanMatrix.NONE);
        check.due("the last thing stays", x.level(31, 0), 1);
        check.end();
    }
}
