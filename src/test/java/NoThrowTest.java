import java.util.Random;

/**
 * No call throws, for any arguments in any state: also behind the 512th call, where the answers
 * are free. What is thrown ends the test, and so fails it.
 */
public final class NoThrowTest {
    private static final int[] INTS = {Integer.MIN_VALUE, -65_536, -33, -2, -1, 0, 1, 2, 8, 9, 10, 19, 20, 21,
        31, 32, 33, 199, 200, 201, 65_535, 65_536, 100_000, 100_001, Integer.MAX_VALUE};
    private static final long[] LONGS = {Long.MIN_VALUE, Integer.MIN_VALUE, -1, 0, 1, 2, 23, 24, 25, 999_999,
        1_000_000, 1_000_001, Integer.MAX_VALUE, 1L << 32, Long.MAX_VALUE};

    public static void main(String[] args) {
        for (int kinds : INTS) {
            for (int levels : INTS) {
                everyNumber(new CleanMatrix(kinds, levels));
            }
        }
        for (int seed = 0; seed < 20; seed++) {
            manyCalls(new Random(seed));
        }
        System.out.println("nothing was thrown");
    }

    private static void everyNumber(CleanMatrix x) {
        for (int one : INTS) {
            for (long hour : LONGS) {
                for (int method = 0; method < 12; method++) {
                    call(x, method, one, (int) hour, (int) (hour >> 1), hour);
                }
            }
        }
    }

    private static void manyCalls(Random random) {
        CleanMatrix x = new CleanMatrix(1 + random.nextInt(20), 1 + random.nextInt(9));
        for (int made = 0; made < 20_000; made++) {
            long hour = random.nextInt(5) == 0 ? LONGS[random.nextInt(LONGS.length)] : random.nextInt(1000);
            call(x, random.nextInt(12), number(random), number(random), number(random), hour);
        }
    }

    private static int number(Random random) {
        return random.nextInt(5) == 0 ? INTS[random.nextInt(INTS.length)] : random.nextInt(10);
    }

    private static void call(CleanMatrix x, int method, int one, int two, int three, long hour) {
        switch (method) {
            case 0: x.thing(); break;
            case 1: x.need(one, two, three); break;
            case 2: x.hours(one, two, three); break;
            case 3: x.joinPipe(one, two); break;
            case 4: x.held(one, two, hour); break;
            case 5: x.cleaned(one, two, hour); break;
            case 6: x.may(one, two, hour); break;
            case 7: x.least(one, two, hour); break;
            case 8: x.cost(one, hour); break;
            case 9: x.level(one, hour); break;
            case 10: x.told(one, two, hour, hour + three); break;
            default: x.allergen(one, two); break;
        }
    }
}
