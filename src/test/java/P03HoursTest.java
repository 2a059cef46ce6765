/** Promise 3: how long each level lasts, alone and joined. */
public final class P03HoursTest {
    private static final Check CHECK = new Check();

    public static void main(String[] args) {
        eachOfItsOwn();
        edges();
        toldBehindTheCleaning();
        wrongInputs();
        CHECK.end();
    }

    private static void eachOfItsOwn() {
        CleanMatrix x = Check.withThings(1, 2, 3);
        x.joinPipe(1, 2);
        CHECK.due("hours(2, 0, 10)", x.hours(2, 0, 10), true);
        CHECK.due("hours(2, 1, 30)", x.hours(2, 1, 30), true);
        for (int thing = 0; thing < 3; thing++) {
            x.cleaned(thing, 2, 100);
        }
        CHECK.due("alone, 9 hours", x.level(0, 109), 2);
        CHECK.due("alone, 10 hours: level 1 lasts 24", x.level(0, 110), 1);
        CHECK.due("alone, 23 hours", x.level(0, 123), 1);
        CHECK.due("alone, 24 hours", x.level(0, 124), 0);
        CHECK.due("joined, 29 hours", x.level(1, 129), 2);
        CHECK.due("joined, 30 hours", x.level(1, 130), 0);
    }

    private static void edges() {
        CleanMatrix x = Check.withThings(1, 1, 1);
        x.cleaned(0, 1, 0);
        CHECK.due("hours(1, 0, 0)", x.hours(1, 0, 0), true);
        CHECK.due("lasts no hour", x.level(0, 0), 0);
        CHECK.due("hours(1, 0, 1)", x.hours(1, 0, 1), true);
        CHECK.due("lasts one hour", x.level(0, 0), 1);
        CHECK.due("one hour went by", x.level(0, 1), 0);
        CHECK.due("hours(1, 0, 100000)", x.hours(1, 0, 100_000), true);
        CHECK.due("99,999 hours", x.level(0, 99_999), 1);
        CHECK.due("100,000 hours", x.level(0, 100_000), 0);
    }

    private static void toldBehindTheCleaning() {
        CleanMatrix x = Check.withThings(1, 1, 1);
        x.cleaned(0, 1, 0);
        CHECK.due("24 hours when untold", x.level(0, 24), 0);
        x.hours(1, 0, 25);
        CHECK.due("told anew, it counts for cleanings before", x.level(0, 24), 1);
    }

    private static void wrongInputs() {
        CleanMatrix x = Check.withThings(1, 3, 1);
        x.cleaned(0, 3, 0);
        int[] noLevels = {0, -1, 4, Integer.MIN_VALUE, Integer.MAX_VALUE};
        for (int level : noLevels) {
            CHECK.due("hours(" + level + ", 0, 5)", x.hours(level, 0, 5), false);
        }
        int[] noStates = {-1, 2, Integer.MIN_VALUE, Integer.MAX_VALUE};
        for (int state : noStates) {
            CHECK.due("hours(1, " + state + ", 5)", x.hours(1, state, 5), false);
        }
        int[] noHours = {-1, 100_001, Integer.MIN_VALUE, Integer.MAX_VALUE};
        for (int h : noHours) {
            CHECK.due("hours(3, 0, " + h + ")", x.hours(3, 0, h), false);
        }
        CHECK.due("refused hours change nothing", x.level(0, 23), 3);
        CHECK.due("refused hours change nothing", x.level(0, 24), 0);
    }
}
