/**
 * Versions of things under sessions that are joined one after the other, with steps that make
 * things of others, and branches. The numbered promises are in the document DOC.md.
 */
public final class VersionJoins {
    private static final int MOST_THINGS = 24;
    private static final int MOST_BRANCHES = 6;
    private static final int MOST_SESSIONS = 40;
    private static final int MOST_STEPS = 12;
    private static final int MOST_USED = 8;
    private static final int MOST_MADE = 4;
    private static final int MOST_TURNS = 50;

    private static final long CHECK_BOUND = 1_000_000_000_000L;
    private static final long PLAY_FACTOR = 6364136223846793005L;
    private static final long PLAY_ADDEND = 1442695040888963407L;

    private static final int SUM = 0;
    private static final int GREATEST = 1;
    private static final int EXCLUSIVE_OR = 2;
    private static final int DIFFERENT_ONES = 3;

    private static final int OWN_SIDE = 0;
    private static final int OTHER_SIDE = 1;

    private static final int NONE = -1;

    private final long[][] branches = new long[MOST_BRANCHES][MOST_THINGS];
    /** The row of branch 0, where all joins and runs happen. */
    private final long[] current = branches[0];
    /** For each thing the number of the step that makes it, or NONE. */
    private final int[] makers = new int[MOST_THINGS];
    private final Step[] steps = new Step[MOST_STEPS];
    private final Session[] sessions = new Session[MOST_SESSIONS];
    private final Conflicts conflicts = new Conflicts();
    private int thingCount = 0;
    private int branchCount = 1;
    private int stepCount = 0;
    private int sessionCount = 0;
    /** How many changes there ever were: play answers by how much it grew. */
    private int changes = 0;

    public VersionJoins() {
    }

    public int thing(long v) {
        if (thingCount >= MOST_THINGS) {
            return -1;
        }
        // Rows of branches that are not there yet may be filled, too: branch() writes them anew.
        for (int branch = 0; branch < MOST_BRANCHES; branch++) {
            branches[branch][thingCount] = v;
        }
        makers[thingCount] = NONE;
        thingCount++;
        return thingCount - 1;
    }

    public int step(int kind) {
        if (kind < SUM || kind > DIFFERENT_ONES) {
            return -2;
        }
        if (stepCount >= MOST_STEPS) {
            return -1;
        }
        steps[stepCount] = new Step(kind);
        stepCount++;
        return stepCount - 1;
    }

    public boolean uses(int step, int thing) {
        if (!isStep(step) || !isThing(thing)) {
            return false;
        }
        Step user = steps[step];
        if (user.isUsing(thing) || user.usedCount >= MOST_USED) {
            return false;
        }
        int maker = makers[thing];
        if (maker != NONE) {
            if (isSameOrAbove(step, maker)) {
                return false;
            }
            putAbove(maker, step);
        }
        user.addUsed(thing);
        return true;
    }

    public boolean makes(int step, int thing) {
        if (!isStep(step) || !isThing(thing)) {
            return false;
        }
        Step maker = steps[step];
        if (makers[thing] != NONE || maker.madeCount >= MOST_MADE || hasUserAtOrAbove(thing, step)) {
            return false;
        }
        for (int user = 0; user < stepCount; user++) {
            if (steps[user].isUsing(thing)) {
                putAbove(step, user);
            }
        }
        maker.addMade(thing);
        makers[thing] = step;
        return true;
    }

    public int session() {
        if (sessionCount >= MOST_SESSIONS) {
            return -1;
        }
        sessions[sessionCount] = new Session();
        sessionCount++;
        return sessionCount - 1;
    }

    public long read(int session, int thing) {
        if (!isOpen(session) || !isThing(thing)) {
            return 0;
        }
        Session reader = sessions[session];
        reader.touch(thing, current[thing]);
        return reader.view(thing);
    }

    public boolean write(int session, int thing, long v) {
        if (!isOpen(session) || !isThing(thing)) {
            return false;
        }
        Session writer = sessions[session];
        writer.touch(thing, current[thing]);
        writer.keepWritten(thing, v);
        return true;
    }

    public int join(int session, boolean checkThrows) {
        if (!isOpen(session)) {
            return -2;
        }
        Session joined = sessions[session];
        int found = collectConflicts(joined);
        if (found > 0) {
            return found;
        }
        // The check comes before the first value is given, so that there is nothing to take back.
        if (checkThrows || !joined.isWithinBounds()) {
            return -1;
        }
        giveWritten(joined);
        joined.open = false;
        return 0;
    }

    public long conflict(int k, int what) {
        if (!conflicts.has(k)) {
            return -1;
        }
        switch (what) {
            case 0:
                return conflicts.things[k];
            case 1:
                return conflicts.own[k];
            case 2:
                return conflicts.others[k];
            default:
                return -2;
        }
    }

    public boolean settle(int k, int side) {
        if (!conflicts.has(k) || side < OWN_SIDE || side > OTHER_SIDE) {
            return false;
        }
        Session owner = conflicts.owner;
        if (owner == null || !owner.open || conflicts.settled[k]) {
            return false;
        }
        conflicts.settled[k] = true;
        int thing = conflicts.things[k];
        owner.rebase(thing, conflicts.others[k]);
        if (side == OTHER_SIDE) {
            owner.dropWritten(thing);
        }
        return true;
    }

    public boolean stale(int step) {
        return isStep(step) && isStale(step);
    }

    public int branch() {
        if (branchCount >= MOST_BRANCHES) {
            return -1;
        }
        System.arraycopy(current, 0, branches[branchCount], 0, MOST_THINGS);
        branchCount++;
        return branchCount - 1;
    }

    public int from(int thing, int k) {
        if (!isThing(thing) || makers[thing] == NONE) {
            return -1;
        }
        Step maker = steps[makers[thing]];
        if (!maker.hasMade(thing) || current[thing] != maker.result || k < 0 || k >= maker.usedThen) {
            return -1;
        }
        return maker.used[k];
    }

    public boolean run(int step) {
        return isStep(step) && refresh(step, 0);
    }

    public long value(int branch, int thing) {
        if (branch < 0 || branch >= branchCount || !isThing(thing)) {
            return 0;
        }
        return branches[branch][thing];
    }

    public int play(long seed, int turns) {
        if (turns < 0 || turns > MOST_TURNS || thingCount == 0) {
            return 0;
        }
        int before = changes;
        long x = seed;
        for (int turn = 0; turn < turns; turn++) {
            x = x * PLAY_FACTOR + PLAY_ADDEND;
            // A session of its own would have neither a conflict nor a value that the check refuses.
            give((int) ((x >>> 33) % thingCount), (x >>> 20) & 255);
            if (x < 0) {
                refreshAll();
            }
        }
        return changes - before;
    }

    private boolean isThing(int thing) {
        return thing >= 0 && thing < thingCount;
    }

    private boolean isStep(int step) {
        return step >= 0 && step < stepCount;
    }

    private boolean isOpen(int session) {
        return session >= 0 && session < sessionCount && sessions[session].open;
    }

    /** Every value of branch 0 that becomes another one does so here, so that each change counts. */
    private void give(int thing, long v) {
        if (current[thing] != v) {
            current[thing] = v;
            changes++;
        }
    }

    private void giveWritten(Session joined) {
        for (int thing = 0; thing < thingCount; thing++) {
            if (joined.wrote[thing]) {
                give(thing, joined.written[thing]);
            }
        }
    }

    private int collectConflicts(Session joined) {
        int found = 0;
        for (int thing = 0; thing < thingCount; thing++) {
            if (joined.isConflict(thing, current[thing])) {
                conflicts.put(found, thing, joined.view(thing), current[thing]);
                found++;
            }
        }
        // A join without conflicts leaves those of an earlier one as they are.
        if (found > 0) {
            conflicts.owner = joined;
            conflicts.count = found;
        }
        return found;
    }

    /** Whether the upper step is the lower one, or makes what goes into it, through others, too. */
    private boolean isSameOrAbove(int upper, int lower) {
        return ((steps[lower].withAbove(lower) >>> upper) & 1) != 0;
    }

    private boolean hasUserAtOrAbove(int thing, int step) {
        for (int user = 0; user < stepCount; user++) {
            if (steps[user].isUsing(thing) && isSameOrAbove(user, step)) {
                return true;
            }
        }
        return false;
    }

    /** All below the lower step get what is above the upper one, so that the sets stay whole. */
    private void putAbove(int upper, int lower) {
        int more = steps[upper].withAbove(upper);
        for (int step = 0; step < stepCount; step++) {
            if (isSameOrAbove(lower, step)) {
                steps[step].above |= more;
            }
        }
    }

    /** One that is stale makes all below it stale: so it is enough to look at all that are above. */
    private boolean isStale(int step) {
        int looked = steps[step].withAbove(step);
        for (int other = 0; other < stepCount; other++) {
            if (((looked >>> other) & 1) != 0 && steps[other].isOutdated(current)) {
                return true;
            }
        }
        return false;
    }

    /** Runs a stale step behind the stale ones above it; the depth is bounded by the steps there are. */
    private boolean refresh(int step, int depth) {
        if (depth >= MOST_STEPS || !isStale(step)) {
            return false;
        }
        Step runner = steps[step];
        for (int i = 0; i < runner.usedCount; i++) {
            int maker = makers[runner.used[i]];
            if (maker != NONE) {
                refresh(maker, depth + 1);
            }
        }
        // Those above may have made again what they had made before: then there is nothing to do.
        if (!isStale(step)) {
            return false;
        }
        runner.work(current);
        for (int i = 0; i < runner.madeCount; i++) {
            give(runner.made[i], runner.result);
        }
        return true;
    }

    private void refreshAll() {
        for (int step = 0; step < stepCount; step++) {
            refresh(step, 0);
        }
    }

    /** What one session read and wrote; its callers hand it numbers of things that there are. */
    private static final class Session {
        final boolean[] touched = new boolean[MOST_THINGS];
        final long[] bases = new long[MOST_THINGS];
        final boolean[] wrote = new boolean[MOST_THINGS];
        final long[] written = new long[MOST_THINGS];
        boolean open = true;

        void touch(int thing, long now) {
            if (!touched[thing]) {
                touched[thing] = true;
                bases[thing] = now;
            }
        }

        void keepWritten(int thing, long v) {
            wrote[thing] = true;
            written[thing] = v;
        }

        void dropWritten(int thing) {
            wrote[thing] = false;
        }

        void rebase(int thing, long base) {
            bases[thing] = base;
        }

        long view(int thing) {
            return wrote[thing] ? written[thing] : bases[thing];
        }

        boolean isConflict(int thing, long now) {
            return touched[thing] && bases[thing] != now && !(wrote[thing] && written[thing] == now);
        }

        boolean isWithinBounds() {
            for (int thing = 0; thing < MOST_THINGS; thing++) {
                if (wrote[thing] && (written[thing] > CHECK_BOUND || written[thing] < -CHECK_BOUND)) {
                    return false;
                }
            }
            return true;
        }
    }

    /** The conflicts of the last join that had some, as they were at that join. */
    private static final class Conflicts {
        final int[] things = new int[MOST_THINGS];
        final long[] own = new long[MOST_THINGS];
        final long[] others = new long[MOST_THINGS];
        final boolean[] settled = new boolean[MOST_THINGS];
        Session owner = null;
        int count = 0;

        boolean has(int k) {
            return k >= 0 && k < count;
        }

        void put(int k, int thing, long ownValue, long otherValue) {
            things[k] = thing;
            own[k] = ownValue;
            others[k] = otherValue;
            settled[k] = false;
        }
    }

    /** A step with what it uses and makes, and what these were in its last run. */
    private static final class Step {
        final int kind;
        final int[] used = new int[MOST_USED];
        final int[] made = new int[MOST_MADE];
        /** The values that were used in the last run, in the order of used. */
        final long[] inputs = new long[MOST_USED];
        int usedCount = 0;
        int madeCount = 0;
        /** The steps that make what goes into this one, through others, too: a bit each. */
        int above = 0;
        boolean ran = false;
        int usedThen = 0;
        int madeThen = 0;
        long result = 0;

        Step(int kind) {
            this.kind = kind;
        }

        int withAbove(int number) {
            return above | (1 << number);
        }

        boolean isUsing(int thing) {
            for (int i = 0; i < usedCount; i++) {
                if (used[i] == thing) {
                    return true;
                }
            }
            return false;
        }

        boolean hasMade(int thing) {
            for (int i = 0; i < madeThen; i++) {
                if (made[i] == thing) {
                    return true;
                }
            }
            return false;
        }

        void addUsed(int thing) {
            used[usedCount] = thing;
            usedCount++;
        }

        void addMade(int thing) {
            made[madeCount] = thing;
            madeCount++;
        }

        /** Whether it is stale by itself. What it uses and makes only grows, so counts tell of that. */
        boolean isOutdated(long[] now) {
            if (!ran || usedCount != usedThen || madeCount != madeThen) {
                return true;
            }
            for (int i = 0; i < usedCount; i++) {
                if (now[used[i]] != inputs[i]) {
                    return true;
                }
            }
            for (int i = 0; i < madeCount; i++) {
                if (now[made[i]] != result) {
                    return true;
                }
            }
            return false;
        }

        void work(long[] now) {
            for (int i = 0; i < usedCount; i++) {
                inputs[i] = now[used[i]];
            }
            ran = true;
            usedThen = usedCount;
            madeThen = madeCount;
            result = resultOfKind();
        }

        private long resultOfKind() {
            switch (kind) {
                case SUM:
                    return sum();
                case GREATEST:
                    return greatest();
                case EXCLUSIVE_OR:
                    return exclusiveOr();
                default:
                    return differentOnes();
            }
        }

        private long sum() {
            long sum = 0;
            for (int i = 0; i < usedThen; i++) {
                sum += inputs[i];
            }
            return sum;
        }

        private long greatest() {
            long greatest = usedThen > 0 ? inputs[0] : 0;
            for (int i = 1; i < usedThen; i++) {
                greatest = Math.max(greatest, inputs[i]);
            }
            return greatest;
        }

        private long exclusiveOr() {
            long bits = 0;
            for (int i = 0; i < usedThen; i++) {
                bits ^= inputs[i];
            }
            return bits;
        }

        private long differentOnes() {
            long count = 0;
            for (int i = 0; i < usedThen; i++) {
                if (isFirstOfItsValue(i)) {
                    count++;
                }
            }
            return count;
        }

        private boolean isFirstOfItsValue(int index) {
            for (int i = 0; i < index; i++) {
                if (inputs[i] == inputs[index]) {
                    return false;
                }
            }
            return true;
        }
    }
}
