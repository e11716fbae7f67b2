import java.util.ArrayList;
import java.util.Collections;
import java.util.HashSet;
import java.util.List;
import java.util.Map;
import java.util.Random;
import java.util.TreeMap;

/** Runs of 512 calls by chance, with fixed seeds, against a model straight after the document's words. */
public final class ModelTest {
    private static final int RUNS = 1500;
    private static final int CALLS = 512;
    private static final int[] STRANGE = {-1, -2, 24, 25, 40, 99, Integer.MIN_VALUE, Integer.MAX_VALUE};
    private static final long[] EDGES = {
        1_000_000_000_000L, 1_000_000_000_001L, -1_000_000_000_000L, -1_000_000_000_001L,
        Long.MAX_VALUE, Long.MIN_VALUE};

    private static int wrong = 0;

    public static void main(String[] args) {
        int[] seen = new int[16];
        for (int seed = 0; seed < RUNS && wrong < 10; seed++) {
            oneRun(seed, seen);
        }
        for (int method = 0; method < seen.length; method++) {
            if (seen[method] == 0) {
                wrong++;
                System.out.println("method " + method + " was never called");
            }
        }
        System.out.println(wrong == 0 ? "all answers are the model's" : wrong + " faults");
        if (wrong != 0) {
            System.exit(1);
        }
    }

    private static void oneRun(int seed, int[] seen) {
        Random random = new Random(seed);
        VersionJoins real = new VersionJoins();
        Model model = new Model();
        int[] weights = weightsOf(random);
        // Few things and small values bring about more conflicts and more equal values.
        int span = 2 + random.nextInt(23);
        for (int call = 0; call < CALLS; call++) {
            int method = pick(random, weights);
            seen[method]++;
            int a = argument(random, method, span);
            int b = argument(random, method, span);
            long v = random.nextInt(40) == 0 ? EDGES[random.nextInt(EDGES.length)] : random.nextInt(4);
            long got;
            try {
                got = ask(real, method, a, b, v);
            } catch (RuntimeException e) {
                wrong++;
                System.out.println("seed " + seed + ", call " + call + ", method " + method + " threw " + e);
                return;
            }
            long want = model.ask(method, a, b, v);
            if (got != want) {
                wrong++;
                System.out.println("seed " + seed + ", call " + call + ": method " + method + " of "
                    + a + ", " + b + ", " + v + " answered " + got + ", the model " + want);
                return;
            }
        }
    }

    private static int[] weightsOf(Random random) {
        int[] weights = {6, 4, 20, 10, 12, 20, 25, 25, 8, 15, 15, 2, 15, 15, 15, 3};
        for (int i = 0; i < weights.length; i++) {
            weights[i] = 1 + weights[i] * random.nextInt(4);
        }
        return weights;
    }

    private static int pick(Random random, int[] weights) {
        int sum = 0;
        for (int weight : weights) {
            sum += weight;
        }
        int at = random.nextInt(sum);
        for (int i = 0; i < weights.length; i++) {
            at -= weights[i];
            if (at < 0) {
                return i;
            }
        }
        return 0;
    }

    private static int argument(Random random, int method, int span) {
        if (random.nextInt(60) == 0) {
            return STRANGE[random.nextInt(STRANGE.length)];
        }
        if (method == 1) {
            return random.nextInt(5) == 0 ? random.nextInt(7) - 1 : random.nextInt(4);
        }
        if (method == 8 || method == 9) {
            return random.nextInt(3);
        }
        return random.nextInt(method == 15 ? 53 : span);
    }

    private static long ask(VersionJoins x, int method, int a, int b, long v) {
        switch (method) {
            case 0: return x.thing(v);
            case 1: return x.step(a);
            case 2: return x.uses(a, b) ? 1 : 0;
            case 3: return x.makes(a, b) ? 1 : 0;
            case 4: return x.session();
            case 5: return x.read(a, b);
            case 6: return x.write(a, b, v) ? 1 : 0;
            case 7: return x.join(a, (b & 7) == 0);
            case 8: return x.conflict(a, b);
            case 9: return x.settle(a, b) ? 1 : 0;
            case 10: return x.stale(a) ? 1 : 0;
            case 11: return x.branch();
            case 12: return x.from(a, b);
            case 13: return x.run(a) ? 1 : 0;
            case 14: return x.value(a, b);
            default: return x.play(v * 0x9E3779B97F4A7C15L + a, b);
        }
    }

    private static final class ModelStep {
        int kind;
        final List<Integer> uses = new ArrayList<>();
        final List<Integer> makes = new ArrayList<>();
        List<Integer> usedThen = null;
        List<Integer> madeThen = null;
        List<Long> valuesThen = null;
        long gave;
    }

    private static final class ModelSession {
        boolean open = true;
        final Map<Integer, Long> base = new TreeMap<>();
        final Map<Integer, Long> written = new TreeMap<>();
    }

    private static final class ModelConflict {
        ModelSession session;
        int thing;
        long own;
        long other;
        boolean settled;
    }

    private static final class Model {
        final List<List<Long>> branches = new ArrayList<>();
        final List<ModelStep> steps = new ArrayList<>();
        final List<ModelSession> sessions = new ArrayList<>();
        List<ModelConflict> last = new ArrayList<>();
        int changes = 0;

        Model() {
            branches.add(new ArrayList<>());
        }

        List<Long> now() {
            return branches.get(0);
        }

        static boolean in(int i, List<?> list) {
            return i >= 0 && i < list.size();
        }

        long ask(int method, int a, int b, long v) {
            switch (method) {
                case 0: return thing(v);
                case 1: return step(a);
                case 2: return uses(a, b) ? 1 : 0;
                case 3: return makes(a, b) ? 1 : 0;
                case 4: return session();
                case 5: return read(a, b);
                case 6: return write(a, b, v) ? 1 : 0;
                case 7: return join(a, (b & 7) == 0);
                case 8: return conflict(a, b);
                case 9: return settle(a, b) ? 1 : 0;
                case 10: return in(a, steps) && stale(steps.get(a)) ? 1 : 0;
                case 11: return branch();
                case 12: return from(a, b);
                case 13: return in(a, steps) && run(steps.get(a)) ? 1 : 0;
                case 14: return in(a, branches) && in(b, now()) ? branches.get(a).get(b) : 0;
                default: return play(v * 0x9E3779B97F4A7C15L + a, b);
            }
        }

        int thing(long v) {
            if (now().size() == 24) {
                return -1;
            }
            for (List<Long> branch : branches) {
                branch.add(v);
            }
            return now().size() - 1;
        }

        int step(int kind) {
            if (kind < 0 || kind > 3) {
                return -2;
            }
            if (steps.size() == 12) {
                return -1;
            }
            ModelStep step = new ModelStep();
            step.kind = kind;
            steps.add(step);
            return steps.size() - 1;
        }

        /** All things into which this one goes, itself among them. */
        HashSet<Integer> madeOf(int thing) {
            HashSet<Integer> all = new HashSet<>();
            all.add(thing);
            boolean more = true;
            while (more) {
                more = false;
                for (ModelStep step : steps) {
                    if (!Collections.disjoint(step.uses, all)) {
                        more |= all.addAll(step.makes);
                    }
                }
            }
            return all;
        }

        boolean uses(int s, int t) {
            if (!in(s, steps) || !in(t, now())) {
                return false;
            }
            ModelStep step = steps.get(s);
            if (step.uses.contains(t) || step.uses.size() == 8) {
                return false;
            }
            for (int made : step.makes) {
                if (madeOf(made).contains(t)) {
                    return false;
                }
            }
            return step.uses.add(t);
        }

        boolean makes(int s, int t) {
            if (!in(s, steps) || !in(t, now()) || maker(t) != null) {
                return false;
            }
            ModelStep step = steps.get(s);
            if (step.makes.size() == 4 || !Collections.disjoint(step.uses, madeOf(t))) {
                return false;
            }
            return step.makes.add(t);
        }

        ModelStep maker(int t) {
            for (ModelStep step : steps) {
                if (step.makes.contains(t)) {
                    return step;
                }
            }
            return null;
        }

        int session() {
            if (sessions.size() == 40) {
                return -1;
            }
            sessions.add(new ModelSession());
            return sessions.size() - 1;
        }

        boolean open(int s) {
            return in(s, sessions) && sessions.get(s).open;
        }

        static long own(ModelSession session, int t) {
            return session.written.containsKey(t) ? session.written.get(t) : session.base.get(t);
        }

        long read(int s, int t) {
            if (!open(s) || !in(t, now())) {
                return 0;
            }
            sessions.get(s).base.putIfAbsent(t, now().get(t));
            return own(sessions.get(s), t);
        }

        boolean write(int s, int t, long v) {
            if (!open(s) || !in(t, now())) {
                return false;
            }
            sessions.get(s).base.putIfAbsent(t, now().get(t));
            sessions.get(s).written.put(t, v);
            return true;
        }

        int join(int s, boolean checkThrows) {
            if (!open(s)) {
                return -2;
            }
            ModelSession session = sessions.get(s);
            List<ModelConflict> found = new ArrayList<>();
            for (int t : session.base.keySet()) {
                Long value = now().get(t);
                if (!value.equals(session.base.get(t)) && !value.equals(session.written.get(t))) {
                    ModelConflict conflict = new ModelConflict();
                    conflict.session = session;
                    conflict.thing = t;
                    conflict.own = own(session, t);
                    conflict.other = value;
                    found.add(conflict);
                }
            }
            if (!found.isEmpty()) {
                last = found;
                return found.size();
            }
            List<Long> before = new ArrayList<>(now());
            try {
                for (Map.Entry<Integer, Long> entry : session.written.entrySet()) {
                    change(entry.getKey(), entry.getValue());
                    if (entry.getValue() > 1_000_000_000_000L || entry.getValue() < -1_000_000_000_000L) {
                        throw new IllegalStateException("the check");
                    }
                }
                if (checkThrows) {
                    throw new IllegalStateException("the check, as told");
                }
            } catch (IllegalStateException e) {
                branches.set(0, before);
                return -1;
            }
            session.open = false;
            return 0;
        }

        void change(int t, long v) {
            if (now().set(t, v) != v) {
                changes++;
            }
        }

        long conflict(int k, int what) {
            if (!in(k, last)) {
                return -1;
            }
            ModelConflict conflict = last.get(k);
            return what == 0 ? conflict.thing : what == 1 ? conflict.own : what == 2 ? conflict.other : -2;
        }

        boolean settle(int k, int side) {
            if (!in(k, last) || side < 0 || side > 1 || last.get(k).settled || !last.get(k).session.open) {
                return false;
            }
            ModelConflict conflict = last.get(k);
            conflict.settled = true;
            conflict.session.base.put(conflict.thing, conflict.other);
            if (side == 1) {
                conflict.session.written.remove(conflict.thing);
            }
            return true;
        }

        List<Long> valuesOf(List<Integer> things) {
            List<Long> values = new ArrayList<>();
            for (int t : things) {
                values.add(now().get(t));
            }
            return values;
        }

        boolean stale(ModelStep step) {
            if (step.usedThen == null || !step.usedThen.equals(step.uses) || !step.madeThen.equals(step.makes)
                || !step.valuesThen.equals(valuesOf(step.uses))) {
                return true;
            }
            for (long v : valuesOf(step.makes)) {
                if (v != step.gave) {
                    return true;
                }
            }
            for (int t : step.uses) {
                ModelStep maker = maker(t);
                if (maker != null && stale(maker)) {
                    return true;
                }
            }
            return false;
        }

        boolean run(ModelStep step) {
            if (!stale(step)) {
                return false;
            }
            for (ModelStep other : steps) {
                if (!Collections.disjoint(other.makes, step.uses)) {
                    run(other);
                }
            }
            if (!stale(step)) {
                return false;
            }
            step.usedThen = new ArrayList<>(step.uses);
            step.madeThen = new ArrayList<>(step.makes);
            step.valuesThen = valuesOf(step.uses);
            step.gave = result(step.kind, step.valuesThen);
            for (int t : step.makes) {
                change(t, step.gave);
            }
            return true;
        }

        static long result(int kind, List<Long> values) {
            long sum = 0;
            long bits = 0;
            for (long v : values) {
                sum += v;
                bits ^= v;
            }
            long greatest = values.isEmpty() ? 0 : Collections.max(values);
            return kind == 0 ? sum : kind == 1 ? greatest : kind == 2 ? bits : new HashSet<>(values).size();
        }

        int branch() {
            if (branches.size() == 6) {
                return -1;
            }
            branches.add(new ArrayList<>(now()));
            return branches.size() - 1;
        }

        int from(int t, int k) {
            ModelStep maker = maker(t);
            if (maker == null || maker.usedThen == null || !maker.madeThen.contains(t)
                || now().get(t) != maker.gave || !in(k, maker.usedThen)) {
                return -1;
            }
            return maker.usedThen.get(k);
        }

        int play(long seed, int turns) {
            if (turns < 0 || turns > 50 || now().isEmpty()) {
                return 0;
            }
            int before = changes;
            long x = seed;
            for (int turn = 0; turn < turns; turn++) {
                x = x * 6364136223846793005L + 1442695040888963407L;
                change((int) ((x >>> 33) % now().size()), (x >>> 20) & 255);
                if (x < 0) {
                    for (ModelStep step : steps) {
                        run(step);
                    }
                }
            }
            return changes - before;
        }
    }
}
