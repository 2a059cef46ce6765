import java.util.Arrays;

/** What may follow what in tanks and pipes. The promises stand in the document. */
public final class CleanMatrix {
    public static final int NONE = -1;
    public static final int FULL = -2;

    private static final int MOST_KINDS = 20;
    private static final int MOST_LEVELS = 9;
    private static final int MOST_THINGS = 32;
    private static final int MOST_EVENTS = 200;
    private static final int MOST_LASTING = 100_000;
    private static final int MOST_BITS = 65_535;
    private static final long LAST_HOUR = 1_000_000L;
    private static final long MOST_CENTS = 1_000_000L;
    private static final int LASTING_UNTOLD = 24;
    private static final int ALONE = 0;
    private static final int JOINED = 1;

    private final int kinds;
    private final int levels;
    private final int[][] needs;
    private final int[] allergens;
    private final int[][] lasting;
    private final long[] costs;

    /** Things of one group bear the same number here. */
    private final int[] groups = new int[MOST_THINGS];
    /** Each thing's event that happened last, null when it has none. */
    private final Event[] lasts = new Event[MOST_THINGS];
    private int thingCount = 0;
    private int eventCount = 0;

    /** A content, or a cleaning when its kind is NONE. */
    private static final class Event {
        private final int kind;
        private final int level;
        private final long hour;
        private final boolean late;
        private Event before = null;

        private Event(int kind, int level, long hour, boolean late) {
            this.kind = kind;
            this.level = level;
            this.hour = hour;
            this.late = late;
        }
    }

    public CleanMatrix(int kinds, int levels) {
        this.kinds = Math.min(Math.max(kinds, 1), MOST_KINDS);
        this.levels = Math.min(Math.max(levels, 1), MOST_LEVELS);
        this.needs = new int[this.kinds][this.kinds];
        for (int from = 0; from < this.kinds; from++) {
            Arrays.fill(this.needs[from], this.levels);
        }
        this.allergens = new int[this.kinds];
        // Levels start at 1, so place 0 of these rows stays unused.
        this.lasting = new int[2][this.levels + 1];
        Arrays.fill(this.lasting[ALONE], LASTING_UNTOLD);
        Arrays.fill(this.lasting[JOINED], LASTING_UNTOLD);
        this.costs = new long[this.levels + 1];
    }

    public boolean need(int from, int to, int level) {
        if (!isKind(from) || !isKind(to) || level < 0 || level > levels) {
            return false;
        }
        needs[from][to] = level;
        return true;
    }

    public boolean hours(int level, int state, int h) {
        if (!isCleaningLevel(level) || (state != ALONE && state != JOINED)) {
            return false;
        }
        if (h < 0 || h > MOST_LASTING) {
            return false;
        }
        lasting[state][level] = h;
        return true;
    }

    public int thing() {
        if (thingCount >= MOST_THINGS) {
            return FULL;
        }
        int made = thingCount;
        groups[made] = made;
        thingCount++;
        return made;
    }

    public boolean joinPipe(int thing, int other) {
        if (!isThing(thing) || !isThing(other) || groups[thing] == groups[other]) {
            return false;
        }
        int kept = groups[thing];
        int given = groups[other];
        for (int each = 0; each < thingCount; each++) {
            if (groups[each] == given) {
                groups[each] = kept;
            }
        }
        return true;
    }

    public boolean held(int thing, int kind, long hour) {
        if (!isKind(kind) || !takesNext(thing, hour)) {
            return false;
        }
        place(thing, new Event(kind, 0, hour, false));
        return true;
    }

    public boolean cleaned(int thing, int level, long hour) {
        if (!isCleaningLevel(level) || !takesNext(thing, hour)) {
            return false;
        }
        place(thing, new Event(NONE, level, hour, false));
        return true;
    }

    public int may(int thing, int kind, long hour) {
        if (!isThing(thing) || !isHour(hour)) {
            return NONE;
        }
        return groupLevel(thing, hour) >= groupNeed(thing, kind, hour) ? 1 : 0;
    }

    public int least(int thing, int kind, long hour) {
        if (!isThing(thing) || !isHour(hour)) {
            return NONE;
        }
        int needed = groupNeed(thing, kind, hour);
        return groupLevel(thing, hour) >= needed ? 0 : cheapestFrom(needed);
    }

    public boolean cost(int level, long cents) {
        if (!isCleaningLevel(level) || cents < 0 || cents > MOST_CENTS) {
            return false;
        }
        costs[level] = cents;
        return true;
    }

    public int level(int thing, long hour) {
        if (!isThing(thing) || !isHour(hour)) {
            return NONE;
        }
        return groupLevel(thing, hour);
    }

    public boolean told(int thing, int kind, long hour, long on) {
        if (!isThing(thing) || !isKind(kind) || !isHour(hour) || !isHour(on)) {
            return false;
        }
        if (on < hour || on < lastHourInTime(thing) || eventCount >= MOST_EVENTS) {
            return false;
        }
        place(thing, new Event(kind, 0, hour, true));
        return true;
    }

    public int allergen(int kind, int bits) {
        if (!isKind(kind) || bits < 0 || bits > MOST_BITS) {
            return NONE;
        }
        int before = allergens[kind];
        allergens[kind] = bits;
        return before;
    }

    private boolean isKind(int kind) {
        return kind >= 0 && kind < kinds;
    }

    private boolean isCleaningLevel(int level) {
        return level >= 1 && level <= levels;
    }

    private boolean isThing(int thing) {
        return thing >= 0 && thing < thingCount;
    }

    private static boolean isHour(long hour) {
        return hour >= 0 && hour <= LAST_HOUR;
    }

    /** Whether an event that is told in time can be the thing's next. */
    private boolean takesNext(int thing, long hour) {
        if (!isThing(thing) || !isHour(hour) || eventCount >= MOST_EVENTS) {
            return false;
        }
        Event last = lasts[thing];
        return last == null || hour >= last.hour;
    }

    /** The hour of the thing's last event that was not told late, 0 when there is none. */
    private long lastHourInTime(int thing) {
        for (Event event = lasts[thing]; event != null; event = event.before) {
            if (!event.late) {
                return event.hour;
            }
        }
        return 0;
    }

    /** Behind all events of its own hour, as these were told before it. */
    private void place(int thing, Event added) {
        Event after = null;
        Event before = lasts[thing];
        while (before != null && before.hour > added.hour) {
            after = before;
            before = before.before;
        }
        added.before = before;
        if (after == null) {
            lasts[thing] = added;
        } else {
            after.before = added;
        }
        eventCount++;
    }

    private int groupLevel(int thing, long hour) {
        int state = stateOf(thing);
        int lowest = levels;
        for (int each = 0; each < thingCount; each++) {
            if (groups[each] == groups[thing]) {
                lowest = Math.min(lowest, ownLevel(each, hour, state));
            }
        }
        return lowest;
    }

    private int stateOf(int thing) {
        for (int each = 0; each < thingCount; each++) {
            if (each != thing && groups[each] == groups[thing]) {
                return JOINED;
            }
        }
        return ALONE;
    }

    /** Every cleaning counts, as a lower level may last longer than a higher one. */
    private int ownLevel(int thing, long hour, int state) {
        int greatest = 0;
        for (Event event = lasts[thing]; event != null; event = event.before) {
            if (event.hour <= hour) {
                if (event.kind != NONE) {
                    return greatest;
                }
                greatest = Math.max(greatest, levelLeft(event.level, hour - event.hour, state));
            }
        }
        return greatest;
    }

    /** What a cleaning is still good for when some hours have gone by since. */
    private int levelLeft(int level, long gone, int state) {
        for (int lower = level; lower >= 1; lower--) {
            if (gone < lasting[state][lower]) {
                return lower;
            }
        }
        return 0;
    }

    private int groupNeed(int thing, int kind, long hour) {
        int highest = 0;
        for (int each = 0; each < thingCount; each++) {
            if (groups[each] == groups[thing]) {
                highest = Math.max(highest, needBehind(lastContent(each, hour), kind));
            }
        }
        return highest;
    }

    /** The kind of the thing's last content up to an hour, NONE when it has none. */
    private int lastContent(int thing, long hour) {
        for (Event event = lasts[thing]; event != null; event = event.before) {
            if (event.hour <= hour && event.kind != NONE) {
                return event.kind;
            }
        }
        return NONE;
    }

    /** Behind no content nothing is needed. */
    private int needBehind(int content, int kind) {
        if (!isKind(content)) {
            return 0;
        }
        if (!isKind(kind) || (allergens[content] & ~allergens[kind]) != 0) {
            return levels;
        }
        return needs[content][kind];
    }

    private int cheapestFrom(int lowest) {
        int cheapest = lowest;
        for (int higher = lowest + 1; higher <= levels; higher++) {
            if (costs[higher] < costs[cheapest]) {
                cheapest = higher;
            }
        }
        return cheapest;
    }
}
