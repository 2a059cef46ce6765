import java.util.ArrayList;
import java.util.List;
import java.util.Random;

/**
 * Long runs of mixed calls against a second program, which keeps every call it was told
 * and works each answer out from the document's terms. The seeds are fixed.
 */
public final class ModelTest {
    private static final int RUNS = 3000;
    private static final int CALLS = 512;
    private static final long[] EDGE_HOURS = {
        -1, 0, 999_999, 1_000_000, 1_000_001, Long.MIN_VALUE, Long.MAX_VALUE, 1L << 32};

    private record Event(int thing, int kind, int level, long hour, boolean late) { }

    private record Pipe(int thing, int other) { }

    /** The terms of the document, word by word and without any thrift. */
    private static final class Model {
        final int kinds;
        final int levels;
        final Integer[][] needs = new Integer[20][20];
        final Integer[][] lasting = new Integer[10][2];
        final long[] costs = new long[10];
        final int[] bits = new int[20];
        final List<Event> events = new ArrayList<>();
        final List<Pipe> pipes = new ArrayList<>();
        int things = 0;

        Model(int kinds, int levels) {
            this.kinds = kinds < 1 ? 1 : kinds > 20 ? 20 : kinds;
            this.levels = levels < 1 ? 1 : levels > 9 ? 9 : levels;
        }

        boolean kind(int k) { return 0 <= k && k <= kinds - 1; }

        boolean thing(int t) { return 0 <= t && t <= things - 1; }

        boolean hour(long h) { return 0 <= h && h <= 1_000_000; }

        List<Integer> group(int thing) {
            List<Integer> group = new ArrayList<>(List.of(thing));
            for (int i = 0; i < group.size(); i++) {
                for (Pipe pipe : pipes) {
                    if (pipe.thing == group.get(i) && !group.contains(pipe.other)) group.add(pipe.other);
                    if (pipe.other == group.get(i) && !group.contains(pipe.thing)) group.add(pipe.thing);
                }
            }
            return group;
        }

        List<Event> upTo(int thing, long hour) {
            List<Event> found = new ArrayList<>();
            for (Event event : events) {
                if (event.thing == thing && event.hour <= hour) found.add(event);
            }
            found.sort((a, b) -> Long.compare(a.hour, b.hour));
            return found;
        }

        int lastContent(List<Event> list) {
            for (int i = list.size() - 1; i >= 0; i--) {
                if (list.get(i).kind >= 0) return i;
            }
            return -1;
        }

        boolean holds(int thing, int k, long hour) {
            List<Event> list = upTo(thing, hour);
            Integer told = lasting[k][group(thing).size() == 1 ? 0 : 1];
            int lasts = told == null ? 24 : told;
            for (int i = lastContent(list) + 1; i < list.size(); i++) {
                if (list.get(i).level >= k && hour - list.get(i).hour < lasts) return true;
            }
            return false;
        }

        int level(int thing, long hour) {
            int least = levels;
            for (int one : group(thing)) {
                int greatest = 0;
                for (int k = 1; k <= levels; k++) if (holds(one, k, hour)) greatest = k;
                if (greatest < least) least = greatest;
            }
            return least;
        }

        int needOf(int from, int to) {
            if (!kind(to) || needs[from][to] == null) return levels;
            for (int a = 0; a < 16; a++) {
                if ((bits[from] >> a) % 2 == 1 && (bits[to] >> a) % 2 == 0) return levels;
            }
            return needs[from][to];
        }

        int needed(int thing, int kind, long hour) {
            int most = 0;
            for (int one : group(thing)) {
                List<Event> list = upTo(one, hour);
                int at = lastContent(list);
                if (at >= 0 && needOf(list.get(at).kind, kind) > most) most = needOf(list.get(at).kind, kind);
            }
            return most;
        }

        int least(int thing, int kind, long hour) {
            int needed = needed(thing, kind, hour);
            if (level(thing, hour) >= needed) return 0;
            int best = -1;
            for (int k = levels; k >= 1; k--) {
                if (k >= needed && (best < 0 || costs[k] <= costs[best])) best = k;
            }
            return best;
        }

        boolean inTime(Event event) {
            if (!thing(event.thing) || !hour(event.hour) || events.size() == 200) return false;
            for (Event old : events) {
                if (old.thing == event.thing && event.hour < old.hour) return false;
            }
            return events.add(event);
        }

        boolean late(int thing, int kind, long hour, long on) {
            if (!thing(thing) || !kind(kind) || !hour(hour) || !hour(on) || on < hour) return false;
            for (Event old : events) {
                if (old.thing == thing && !old.late && on < old.hour) return false;
            }
            return events.size() < 200 && events.add(new Event(thing, kind, 0, hour, true));
        }

        boolean join(int thing, int other) {
            if (!thing(thing) || !thing(other) || group(thing).contains(other)) return false;
            return pipes.add(new Pipe(thing, other));
        }
    }

    private final Check check;
    private final Random random;
    private final Model model;
    private final CleanMatrix real;
    private final String run;
    private final int spread;
    /** Such a run comes to 200 events, which a mixed one does not. */
    private final boolean busy;
    private long now = 0;

    private ModelTest(Check check, int seed) {
        this.check = check;
        this.random = new Random(seed);
        int kinds = random.nextInt(24) - 1;
        int levels = random.nextInt(13) - 1;
        if (random.nextInt(3) > 0) kinds = 1 + random.nextInt(3);
        this.model = new Model(kinds, levels);
        this.real = new CleanMatrix(kinds, levels);
        this.run = "seed " + seed + " ";
        this.busy = seed % 4 == 0;
        this.spread = 1 + random.nextInt(busy ? 3 : 60);
    }

    private int near(int count) {
        int edge = random.nextInt(60);
        if (edge == 0) return Integer.MIN_VALUE;
        if (edge == 1) return Integer.MAX_VALUE;
        if (edge == 2) return -1;
        return random.nextInt(count + (edge == 3 ? 2 : 0) + (count == 0 ? 1 : 0));
    }

    private long anHour() {
        if (random.nextInt(60) == 0) return EDGE_HOURS[random.nextInt(EDGE_HOURS.length)];
        return Math.max(0, now + random.nextInt(2 * spread) - spread);
    }

    /** How many calls were made: behind the 512th the answers are free. */
    private int calls() {
        if (random.nextInt(4) == 0) now += random.nextInt(3);
        int what = busy && model.things > 0 && random.nextInt(8) > 0 ? 20 + random.nextInt(45) : random.nextInt(100);
        if (what < 20) tellNumbers(what);
        else if (what < 65) tellEvents(what);
        else return ask();
        return 1;
    }

    private void tellNumbers(int what) {
        int kind = near(model.kinds);
        int to = near(model.kinds);
        int level = near(model.levels + 1);
        if (what < 6) {
            boolean due = model.kind(kind) && model.kind(to) && 0 <= level && level <= model.levels;
            if (due) model.needs[kind][to] = level;
            check.due(run + "need", real.need(kind, to, level), due);
        } else if (what < 9) {
            int state = near(2);
            int h = random.nextInt(20) == 0 ? 99_999 + random.nextInt(3) : near(40);
            boolean due = 1 <= level && level <= model.levels && (state == 0 || state == 1) && 0 <= h && h <= 100_000;
            if (due) model.lasting[level][state] = h;
            check.due(run + "hours", real.hours(level, state, h), due);
        } else if (what < 12) {
            long cents = random.nextInt(20) == 0 ? 999_999 + random.nextInt(3) : near(4);
            boolean due = 1 <= level && level <= model.levels && 0 <= cents && cents <= 1_000_000;
            if (due) model.costs[level] = cents;
            check.due(run + "cost", real.cost(level, cents), due);
        } else if (what < 14) {
            int bits = random.nextInt(9) == 0 ? 65_534 + random.nextInt(3) : near(4);
            boolean good = model.kind(kind) && 0 <= bits && bits <= 65_535;
            int due = good ? model.bits[kind] : -1;
            if (good) model.bits[kind] = bits;
            check.due(run + "allergen", real.allergen(kind, bits), due);
        } else if (what < 18) {
            int due = model.things == 32 ? -2 : model.things++;
            check.due(run + "thing", real.thing(), due);
        } else {
            int thing = near(model.things);
            int other = near(model.things);
            check.due(run + "joinPipe", real.joinPipe(thing, other), model.join(thing, other));
        }
    }

    private void tellEvents(int what) {
        int thing = near(model.things);
        int kind = near(model.kinds);
        int level = near(model.levels + 1);
        long hour = anHour();
        if (what < 33) {
            boolean due = model.kind(kind) && model.inTime(new Event(thing, kind, 0, hour, false));
            check.due(run + "held", real.held(thing, kind, hour), due);
        } else if (what < 52) {
            boolean due = 1 <= level && level <= model.levels
                && model.inTime(new Event(thing, -1, level, hour, false));
            check.due(run + "cleaned", real.cleaned(thing, level, hour), due);
        } else {
            long on = random.nextInt(3) == 0 ? hour : anHour();
            check.due(run + "told", real.told(thing, kind, hour, on), model.late(thing, kind, hour, on));
        }
    }

    private int ask() {
        int thing = near(model.things);
        int kind = near(model.kinds);
        long hour = anHour();
        boolean good = model.thing(thing) && model.hour(hour);
        int level = good ? model.level(thing, hour) : -1;
        check.due(run + "level", real.level(thing, hour), level);
        int may = good ? (level >= model.needed(thing, kind, hour) ? 1 : 0) : -1;
        check.due(run + "may", real.may(thing, kind, hour), may);
        check.due(run + "least", real.least(thing, kind, hour), good ? model.least(thing, kind, hour) : -1);
        return 3;
    }

    public static void main(String[] args) {
        Check check = new Check();
        for (int seed = 0; seed < RUNS; seed++) {
            ModelTest test = new ModelTest(check, seed);
            for (int made = 0; made + 3 <= CALLS; ) {
                made += test.calls();
            }
        }
        check.end();
    }
}
