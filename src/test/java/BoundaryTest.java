/**
 * Each sentence of the document that names a boundary case (too small, too large, empty, full, a
 * wrap-around, a refused call), with a test of its own: those of the terms, then of the promises.
 */
public final class BoundaryTest {
    private static final long BOUND = 1_000_000_000_000L;
    private static final long MIN = Long.MIN_VALUE;
    private static final long MAX = Long.MAX_VALUE;
    private static final int[] FAR = {-1, -2, 64, 99, 1 << 16, Integer.MIN_VALUE, Integer.MAX_VALUE};

    private static String sentence = "";
    private static int cases = 0;
    private static int wrong = 0;

    public static void main(String[] args) {
        callsOfAnObject();
        termsOfThingsAndBranches();
        termsOfSessions();
        termsOfTheCheck();
        termsOfSteps();
        termsOfKinds();
        termsOfStale();
        termsOfRuns();
        promisesOfMaking();
        promisesOfUses();
        promisesOfMakes();
        promisesOfSessions();
        promisesOfJoins();
        promisesOfConflicts();
        promisesOfSettles();
        promisesOfSteps();
        promisesOfPlay();
        System.out.println(cases + " boundary cases, "
            + (wrong == 0 ? "all hold" : wrong + " answers are not as due"));
        if (wrong != 0) {
            System.exit(1);
        }
    }

    private static void holds(String where, String words, Runnable test) {
        sentence = where + ": " + words;
        cases++;
        try {
            test.run();
        } catch (RuntimeException e) {
            wrong++;
            System.out.println(sentence + "\n    threw " + e);
        }
    }

    private static void due(String call, long want, long got) {
        if (want != got) {
            wrong++;
            System.out.println(sentence + "\n    " + call + " answered " + got + ", due is " + want);
        }
    }

    private static void yes(String call, boolean got) {
        due(call, 1, got ? 1 : 0);
    }

    private static void no(String call, boolean got) {
        due(call, 0, got ? 1 : 0);
    }

    /** An object with things 0, 1, .. of these values. */
    private static VersionJoins with(long... values) {
        VersionJoins x = new VersionJoins();
        for (long v : values) {
            x.thing(v);
        }
        return x;
    }

    /** An object with so many things, each with its number plus 100. */
    private static VersionJoins withThings(int count) {
        VersionJoins x = new VersionJoins();
        for (int i = 0; i < count; i++) {
            x.thing(100 + i);
        }
        return x;
    }

    private static void addSteps(VersionJoins x, int count, int kind) {
        for (int i = 0; i < count; i++) {
            x.step(kind);
        }
    }

    /** A session of its own writes the value and is joined. */
    private static void set(VersionJoins x, int thing, long v) {
        int session = x.session();
        yes("write for set", x.write(session, thing, v));
        due("join for set", 0, x.join(session, false));
    }

    private static void dueValues(VersionJoins x, int branch, long... want) {
        for (int i = 0; i < want.length; i++) {
            due("value(" + branch + ", " + i + ")", want[i], x.value(branch, i));
        }
    }

    /** Session 0 wrote 10 of thing 0 that was 1 and is 11 now: one conflict, not joined yet. */
    private static VersionJoins withConflict() {
        VersionJoins x = with(1, 2);
        x.session();
        x.write(0, 0, 10);
        set(x, 0, 11);
        return x;
    }

    /** The step of number 0 and this kind that uses things of these values; its answer. */
    private static long made(int kind, long... values) {
        VersionJoins x = with(values);
        int target = x.thing(77);
        x.step(kind);
        for (int i = 0; i < values.length; i++) {
            yes("uses", x.uses(0, i));
        }
        yes("makes", x.makes(0, target));
        yes("run", x.run(0));
        return x.value(0, target);
    }

    /** Steps 0 .. count - 1 in a row: each uses the thing of its number and makes the next one. */
    private static VersionJoins row(int count) {
        VersionJoins x = withThings(count + 1);
        addSteps(x, count, 0);
        for (int i = 0; i < count; i++) {
            yes("uses in the row", x.uses(i, i));
            yes("makes in the row", x.makes(i, i + 1));
        }
        return x;
    }

    private static void callsOfAnObject() {
        String where = "What it is";
        holds(where, "An object is used for at most 512 calls after it has been made", () -> {
            VersionJoins x = row(12);
            int calls = 13 + 12 + 24;
            while (calls < 510) {
                yes("play(" + calls + ", 50) changes something", x.play(calls, 50) > 0);
                calls++;
            }
            x.play(seedOf(-1), 1);
            no("stale(11), the 512th call: all steps ran in the one before", x.stale(11));
        });
    }

    private static void termsOfThingsAndBranches() {
        String where = "Terms";
        holds(where, "THINGS are numbered from 0", () -> {
            VersionJoins x = new VersionJoins();
            due("thing(5)", 0, x.thing(5));
            due("thing(6)", 1, x.thing(6));
            dueValues(x, 0, 5, 6, 0);
        });
        holds(where, "THINGS .. at most 24", () -> {
            VersionJoins x = withThings(23);
            due("thing(7), the 24th", 23, x.thing(7));
            due("thing(8), the 25th", -1, x.thing(8));
            due("value(0, 23)", 7, x.value(0, 23));
            due("value(0, 24)", 0, x.value(0, 24));
            x.session();
            yes("write(0, 23, 1)", x.write(0, 23, 1));
            no("write(0, 24, 1)", x.write(0, 24, 1));
        });
        holds(where, "BRANCHES too, at most 6", () -> {
            VersionJoins x = with(3);
            for (int b = 1; b < 6; b++) {
                due("branch()", b, x.branch());
            }
            due("branch(), there are 6", -1, x.branch());
            due("value(5, 0)", 3, x.value(5, 0));
            due("value(6, 0)", 0, x.value(6, 0));
        });
        holds(where, "BRANCH 0 is there at first, all others are copies", () -> {
            VersionJoins x = with(3);
            due("value(0, 0)", 3, x.value(0, 0));
            due("value(1, 0): not there", 0, x.value(1, 0));
            x.branch();
            set(x, 0, 4);
            x.branch();
            set(x, 0, 5);
            due("value(0, 0)", 5, x.value(0, 0));
            due("value(1, 0)", 3, x.value(1, 0));
            due("value(2, 0)", 4, x.value(2, 0));
        });
        holds(where, "what a THING has in BRANCH 0 it has in the others, too, when it is told first", () -> {
            VersionJoins x = with(3);
            for (int b = 1; b < 6; b++) {
                x.branch();
            }
            x.thing(-9);
            for (int b = 0; b < 6; b++) {
                dueValues(x, b, 3, -9, 0);
            }
            set(x, 1, 8);
            for (int b = 1; b < 6; b++) {
                dueValues(x, b, 3, -9);
            }
        });
        holds(where, "VALUES are longs", () -> {
            VersionJoins x = with(MIN, MAX, 1L << 32, -1);
            x.branch();
            dueValues(x, 1, MIN, MAX, 1L << 32, -1);
            x.session();
            due("read(0, 0)", MIN, x.read(0, 0));
            x.write(0, 3, MAX);
            due("read(0, 3)", MAX, x.read(0, 3));
        });
        holds(where, "sums run over", () -> {
            due("MAX + 1", MIN, made(0, MAX, 1));
            due("MIN - 1", MAX, made(0, MIN, -1));
            due("MIN + MIN", 0, made(0, MIN, MIN));
            due("8 times MAX", -8, made(0, MAX, MAX, MAX, MAX, MAX, MAX, MAX, MAX));
            due("MAX + MIN", -1, made(0, MAX, MIN));
        });
    }

    private static void termsOfSessions() {
        String where = "Terms";
        holds(where, "SESSIONS, numbered from 0, at most 40", () -> {
            VersionJoins x = with(1);
            for (int i = 0; i < 40; i++) {
                due("session()", i, x.session());
            }
            due("session(), the 41st", -1, x.session());
            yes("write(39, 0, 2)", x.write(39, 0, 2));
            no("write(40, 0, 2)", x.write(40, 0, 2));
        });
        holds(where, "are OPEN until they are joined", () -> {
            VersionJoins x = withConflict();
            due("join with a conflict", 1, x.join(0, false));
            yes("write: open", x.write(0, 0, 11));
            due("join that throws", -1, x.join(0, true));
            yes("write: open", x.write(0, 0, 11));
            due("join", 0, x.join(0, false));
            no("write: joined", x.write(0, 0, 11));
        });
        holds(where, "its BASE: the VALUE in BRANCH 0 when it did that first", () -> {
            VersionJoins x = with(1, 2, 3);
            x.session();
            set(x, 0, 10);
            due("read(0, 0): not of when it was opened", 10, x.read(0, 0));
            due("read(0, 1)", 2, x.read(0, 1));
            set(x, 1, 20);
            due("read(0, 1): not of the second read", 2, x.read(0, 1));
            x.write(0, 2, 30);
            set(x, 2, 33);
            x.write(0, 2, 31);
            due("join: 1 by its first read, 2 by its first write", 2, x.join(0, false));
        });
        holds(where, "A SESSION reads what it wrote last, else the BASE", () -> {
            VersionJoins x = with(1);
            x.session();
            due("read: the base", 1, x.read(0, 0));
            x.write(0, 0, 5);
            x.write(0, 0, 0);
            due("read: 0 was written", 0, x.read(0, 0));
        });
        holds(where, "A CONFLICT .. is a THING whose VALUE in BRANCH 0 is not its BASE", () -> {
            VersionJoins x = with(1, 2);
            x.session();
            x.read(0, 0);
            set(x, 1, 20);
            set(x, 0, 10);
            due("join: thing 1 was not read", 1, x.join(0, false));
            set(x, 0, 1);
            due("join: it is the base again", 0, x.join(0, false));
        });
        holds(where, "nor, if the SESSION wrote it, what it wrote", () -> {
            VersionJoins x = with(1, 2);
            x.session();
            x.write(0, 0, 10);
            x.read(0, 1);
            set(x, 0, 10);
            set(x, 1, 0);
            due("join: 0 is what it wrote, 1 was read alone", 1, x.join(0, false));
            due("conflict(0, 0)", 1, x.conflict(0, 0));
        });
    }

    private static void termsOfTheCheck() {
        String where = "Terms";
        holds(where, "TO JOIN a SESSION without CONFLICTS: what it wrote becomes the VALUE", () -> {
            VersionJoins x = withThings(24);
            x.session();
            for (int i = 0; i < 24; i++) {
                x.write(0, i, -i);
            }
            due("join", 0, x.join(0, false));
            for (int i = 0; i < 24; i++) {
                due("value", -i, x.value(0, i));
            }
            x.session();
            due("join of one that wrote none", 0, x.join(1, false));
        });
        holds(where, "the CHECK throws at the first one that is above 1,000,000,000,000", () -> {
            for (int at = 0; at < 24; at += 23) {
                VersionJoins x = withThings(24);
                x.session();
                x.write(0, at, BOUND + 1);
                due("join: one above", -1, x.join(0, false));
                x.write(0, at, MAX);
                due("join: far above", -1, x.join(0, false));
                x.write(0, at, BOUND);
                due("join: just on it", 0, x.join(0, false));
                due("value", BOUND, x.value(0, at));
            }
        });
        holds(where, "or below that less than 0", () -> {
            for (int at = 0; at < 24; at += 23) {
                VersionJoins x = withThings(24);
                x.session();
                x.write(0, at, -BOUND - 1);
                due("join: one below", -1, x.join(0, false));
                x.write(0, at, MIN);
                due("join: far below", -1, x.join(0, false));
                x.write(0, at, -BOUND);
                due("join: just on it", 0, x.join(0, false));
                due("value", -BOUND, x.value(0, at));
            }
        });
        holds(where, "the CHECK is of what it wrote, not of what is read, is there, or is made", () -> {
            VersionJoins x = with(MAX, MIN, 0);
            x.session();
            x.read(0, 0);
            x.read(0, 1);
            x.write(0, 2, 5);
            due("join", 0, x.join(0, false));
            due("kind 1 of MAX", MAX, made(1, MAX));
        });
        holds(where, "if it is told to throw, behind the last one", () -> {
            VersionJoins x = with(1, 2);
            x.session();
            x.write(0, 0, 10);
            x.write(0, 1, 20);
            due("join(0, true)", -1, x.join(0, true));
            dueValues(x, 0, 1, 2);
        });
        holds(where, "(also of none)", () -> {
            VersionJoins x = with(1);
            x.session();
            due("join(0, true): neither read nor wrote", -1, x.join(0, true));
            x.read(0, 0);
            due("join(0, true): read alone", -1, x.join(0, true));
            due("join(0, false)", 0, x.join(0, false));
            VersionJoins empty = new VersionJoins();
            empty.session();
            due("join(0, true) without things", -1, empty.join(0, true));
            due("join(0, false) without things", 0, empty.join(0, false));
        });
        holds(where, "then all VALUES are what they were", () -> {
            VersionJoins x = with(1, 2, 3);
            x.step(0);
            x.uses(0, 0);
            x.run(0);
            x.session();
            x.write(0, 0, 10);
            x.write(0, 1, BOUND + 1);
            x.write(0, 2, 30);
            due("join: the second one is above", -1, x.join(0, false));
            dueValues(x, 0, 1, 2, 3);
            no("stale(0): nothing changed", x.stale(0));
            x.write(0, 1, 20);
            due("join: what it wrote is still there", 0, x.join(0, false));
            dueValues(x, 0, 10, 20, 30);
        });
    }

    private static void termsOfSteps() {
        String where = "Terms";
        holds(where, "STEPS, numbered from 0, at most 12", () -> {
            VersionJoins x = with(1);
            for (int i = 0; i < 12; i++) {
                due("step(0)", i, x.step(0));
            }
            due("step(0), the 13th", -1, x.step(0));
            yes("uses(11, 0)", x.uses(11, 0));
            no("uses(12, 0)", x.uses(12, 0));
            yes("run(11)", x.run(11));
            no("run(12)", x.run(12));
        });
        holds(where, "USE up to 8 THINGS", () -> {
            VersionJoins x = withThings(10);
            addSteps(x, 2, 3);
            for (int i = 0; i < 8; i++) {
                yes("uses", x.uses(0, i));
            }
            no("uses, the 9th", x.uses(0, 8));
            yes("uses by another step", x.uses(1, 8));
            yes("makes(0, 9)", x.makes(0, 9));
            yes("run(0)", x.run(0));
            due("value(0, 9): of eight", 8, x.value(0, 9));
        });
        holds(where, "in the order in which they are told", () -> {
            VersionJoins x = withThings(9);
            x.step(0);
            int[] order = {5, 2, 7, 0, 6, 1, 4, 3};
            for (int thing : order) {
                x.uses(0, thing);
            }
            x.makes(0, 8);
            x.run(0);
            for (int k = 0; k < 8; k++) {
                due("from(8, " + k + ")", order[k], x.from(8, k));
            }
        });
        holds(where, "and MAKE up to 4", () -> {
            VersionJoins x = with(9, 1, 1, 1, 1, 1);
            addSteps(x, 2, 0);
            x.uses(0, 0);
            for (int i = 1; i < 5; i++) {
                yes("makes", x.makes(0, i));
            }
            no("makes, the 5th", x.makes(0, 5));
            yes("run(0)", x.run(0));
            dueValues(x, 0, 9, 9, 9, 9, 9, 1);
            yes("makes by another step", x.makes(1, 5));
        });
        holds(where, "no THING is MADE by two", () -> {
            VersionJoins x = with(9, 4, 1);
            addSteps(x, 2, 0);
            x.uses(0, 0);
            x.uses(1, 1);
            yes("makes(0, 2)", x.makes(0, 2));
            no("makes(1, 2)", x.makes(1, 2));
            yes("run(0)", x.run(0));
            yes("run(1)", x.run(1));
            due("value(0, 2)", 9, x.value(0, 2));
        });
        holds(where, "none USES what it MAKES, nor what others MAKE of that, and so on", () -> {
            VersionJoins x = row(12);
            for (int step = 0; step < 12; step++) {
                for (int thing = step + 1; thing < 13; thing++) {
                    no("uses(" + step + ", " + thing + ")", x.uses(step, thing));
                }
            }
            no("makes(11, 0)", x.makes(11, 0));
            yes("uses(11, 0): no circle", x.uses(11, 0));
        });
        holds(where, "and so on, in whatever order it is told", () -> {
            for (int order = 0; order < 4; order++) {
                VersionJoins x = toldInOrder(order);
                for (int place = 0; place < 12; place++) {
                    for (int thing = place + 1; thing < 13; thing++) {
                        no("uses what is below it", x.uses(11 - place, thing));
                    }
                }
                no("makes(0, 0): the last one what the first one uses", x.makes(0, 0));
                yes("run(0)", x.run(0));
                due("value(0, 12)", 100, x.value(0, 12));
                set(x, 0, 5);
                yes("stale(0)", x.stale(0));
            }
        });
    }

    /** Twelve steps in a row against their numbers; all uses before or behind all makes, up or down. */
    private static VersionJoins toldInOrder(int order) {
        VersionJoins x = withThings(13);
        addSteps(x, 12, 0);
        for (int round = 0; round < 2; round++) {
            for (int i = 0; i < 12; i++) {
                int step = order < 2 ? i : 11 - i;
                if (round == order % 2) {
                    yes("uses", x.uses(step, 11 - step));
                } else {
                    yes("makes", x.makes(step, 12 - step));
                }
            }
        }
        return x;
    }

    private static void termsOfKinds() {
        String where = "Terms";
        holds(where, "Kind 0: the sum of what it USES", () -> {
            due("of none", 0, made(0));
            due("of one", -4, made(0, -4));
            due("of eight", 36, made(0, 1, 2, 3, 4, 5, 6, 7, 8));
            due("of equal ones", 15, made(0, 5, 5, 5));
        });
        holds(where, "1 the greatest (0 of none)", () -> {
            due("of none", 0, made(1));
            due("of one below 0", -4, made(1, -4));
            due("of two below 0", -4, made(1, -9, -4));
            due("of MIN", MIN, made(1, MIN));
            due("of MIN and MAX", MAX, made(1, MIN, MAX));
            due("the eighth of eight", 8, made(1, 1, 2, 3, 4, 5, 6, 7, 8));
            due("the first of eight", 8, made(1, 8, 7, 6, 5, 4, 3, 2, 1));
        });
        holds(where, "2 their exclusive or", () -> {
            due("of none", 0, made(2));
            due("of one", MIN, made(2, MIN));
            due("of two equal ones", 0, made(2, MAX, MAX));
            due("of MIN and MAX", -1, made(2, MIN, MAX));
            due("of eight", 255, made(2, 1, 2, 4, 8, 16, 32, 64, 128));
        });
        holds(where, "3 how many different ones", () -> {
            due("of none", 0, made(3));
            due("of one", 1, made(3, 0));
            due("of eight equal ones", 1, made(3, 7, 7, 7, 7, 7, 7, 7, 7));
            due("of eight different ones", 8, made(3, MIN, -1, 0, 1, 2, 3, 1L << 32, MAX));
            due("of 1, 2, 1, 2", 2, made(3, 1, 2, 1, 2));
        });
    }

    private static void termsOfStale() {
        String where = "Terms";
        holds(where, "A STEP is STALE, if it did not run yet", () -> {
            VersionJoins x = new VersionJoins();
            x.step(0);
            yes("stale(0): uses and makes none", x.stale(0));
            yes("run(0)", x.run(0));
            no("stale(0)", x.stale(0));
        });
        holds(where, "or a VALUE in BRANCH 0 that it USES is not what it was in its last run", () -> {
            VersionJoins x = withThings(8);
            x.step(0);
            for (int i = 0; i < 8; i++) {
                x.uses(0, i);
            }
            x.run(0);
            for (int i = 0; i < 8; i += 7) {
                set(x, i, 1);
                yes("stale(0)", x.stale(0));
                set(x, i, 100 + i);
                no("stale(0): what it was", x.stale(0));
            }
        });
        holds(where, "or one that it MAKES is not what it made", () -> {
            VersionJoins x = withThings(4);
            x.step(0);
            for (int i = 0; i < 4; i++) {
                x.makes(0, i);
            }
            x.run(0);
            for (int i = 0; i < 4; i += 3) {
                set(x, i, 1);
                yes("stale(0)", x.stale(0));
                set(x, i, 0);
                no("stale(0): what it made", x.stale(0));
            }
        });
        holds(where, "or it USES or MAKES more or others than then", () -> {
            VersionJoins x = with(0, 0, 0);
            x.step(0);
            x.run(0);
            x.uses(0, 0);
            yes("stale(0): uses one, and none then", x.stale(0));
            yes("run(0)", x.run(0));
            x.makes(0, 1);
            yes("stale(0): makes one, and none then", x.stale(0));
            yes("run(0)", x.run(0));
            no("uses(0, 0): refused", x.uses(0, 0));
            no("uses(0, 1): refused", x.uses(0, 1));
            no("makes(0, 0): refused", x.makes(0, 0));
            no("makes(0, 1): refused", x.makes(0, 1));
            no("stale(0): not more by refused calls", x.stale(0));
        });
        holds(where, "or if it USES a THING that a STALE one MAKES", () -> {
            VersionJoins x = row(12);
            x.run(11);
            no("stale(11)", x.stale(11));
            set(x, 0, 5);
            for (int i = 0; i < 12; i++) {
                yes("stale", x.stale(i));
            }
            set(x, 0, 100);
            set(x, 12, 5);
            no("stale(10): only the last one is", x.stale(10));
            yes("stale(11)", x.stale(11));
        });
    }

    private static void termsOfRuns() {
        String where = "Terms";
        holds(where, "TO RUN a STEP in BRANCH 0: if it is STALE", () -> {
            VersionJoins x = with(5, 6);
            x.branch();
            x.step(0);
            x.uses(0, 0);
            x.makes(0, 1);
            yes("run(0)", x.run(0));
            no("run(0) again", x.run(0));
            dueValues(x, 0, 5, 5);
            dueValues(x, 1, 5, 6);
        });
        holds(where, "first those STALE ones run, whose THINGS it USES, in their order (likewise)", () -> {
            VersionJoins x = row(12);
            x.thing(1);
            yes("run(8): those before it", x.run(8));
            dueValues(x, 0, 100, 100, 100, 100, 100, 100, 100, 100, 100, 100, 110);
            yes("stale(9): not run", x.stale(9));
            yes("run(11)", x.run(11));
            due("value(0, 12)", 100, x.value(0, 12));
            for (int i = 0; i < 12; i++) {
                no("run: none is stale", x.run(i));
            }
        });
        holds(where, "then it gives its VALUE to all that it MAKES", () -> {
            VersionJoins x = with(MAX, 1, 2, 3, 4);
            x.step(0);
            x.uses(0, 0);
            for (int i = 1; i < 5; i++) {
                x.makes(0, i);
            }
            yes("run(0): no check", x.run(0));
            dueValues(x, 0, MAX, MAX, MAX, MAX, MAX);
        });
        holds(where, "(It may be that it is not STALE any more ..: then it does not run.)", () -> {
            VersionJoins x = row(12);
            x.run(11);
            set(x, 1, 5);
            yes("stale(11)", x.stale(11));
            no("run(11)", x.run(11));
            due("value(0, 1): but the first one ran", 100, x.value(0, 1));
            no("stale(11)", x.stale(11));
        });
        holds(where, "A CHANGE is that a THING's VALUE in BRANCH 0 becomes another one", () -> {
            VersionJoins x = with(255);
            due("play: the same VALUE", 0, x.play(seedOf(-1), 1));
            due("play: another one", 1, x.play(seedOf(0), 1));
            VersionJoins y = with(255, 255);
            y.step(0);
            y.uses(0, 1);
            y.makes(0, 0);
            due("play: by a join none, by a run none", 0, y.play(seedOf(-1), 1));
            no("stale(0): yet it ran", y.stale(0));
        });
    }

    private static void promisesOfMaking() {
        holds("Promise 1", "No THINGS, STEPS, SESSIONS; BRANCH 0", () -> {
            VersionJoins x = new VersionJoins();
            due("value(0, 0)", 0, x.value(0, 0));
            no("stale(0)", x.stale(0));
            no("run(0)", x.run(0));
            no("uses(0, 0)", x.uses(0, 0));
            no("makes(0, 0)", x.makes(0, 0));
            due("from(0, 0)", -1, x.from(0, 0));
            due("read(0, 0)", 0, x.read(0, 0));
            no("write(0, 0, 1)", x.write(0, 0, 1));
            due("join(0, false)", -2, x.join(0, false));
            due("join(0, true)", -2, x.join(0, true));
            due("conflict(0, 0)", -1, x.conflict(0, 0));
            no("settle(0, 0)", x.settle(0, 0));
            due("branch()", 1, x.branch());
        });
        holds("Promise 2", "-1 there are 24", () -> {
            VersionJoins x = withThings(24);
            for (int again = 0; again < 3; again++) {
                due("thing(-5)", -1, x.thing(-5));
            }
            for (int i = 0; i < 24; i++) {
                due("value", 100 + i, x.value(0, i));
            }
        });
        holds("Promise 3", "A STEP of a kind (0 .. 3)", () -> {
            VersionJoins x = new VersionJoins();
            for (int kind = 0; kind < 4; kind++) {
                due("step(" + kind + ")", kind, x.step(kind));
            }
        });
        holds("Promise 3", "-2 another kind", () -> {
            VersionJoins x = new VersionJoins();
            due("step(4)", -2, x.step(4));
            for (int kind : FAR) {
                due("step(" + kind + ")", -2, x.step(kind));
            }
            no("stale(0): none was made", x.stale(0));
            due("step(0)", 0, x.step(0));
        });
        holds("Promise 3", "-1 there are 12", () -> {
            VersionJoins x = new VersionJoins();
            addSteps(x, 12, 0);
            for (int kind = 0; kind < 4; kind++) {
                due("step(" + kind + ")", -1, x.step(kind));
            }
            due("step(4): another kind stands first", -2, x.step(4));
        });
        holds("Promise 6", "-1 there are 40", () -> {
            VersionJoins x = with(1);
            for (int i = 0; i < 40; i++) {
                x.session();
                x.join(i, false);
            }
            due("session(): joined ones count, too", -1, x.session());
            due("session()", -1, x.session());
        });
        holds("Promise 13", "-1 there are 6", () -> {
            VersionJoins x = with(1);
            for (int b = 1; b < 6; b++) {
                x.branch();
            }
            set(x, 0, 2);
            due("branch()", -1, x.branch());
            due("branch()", -1, x.branch());
            due("value(5, 0): not copied anew", 1, x.value(5, 0));
        });
        holds("Promise 13", "A BRANCH like BRANCH 0, of no THINGS", () -> {
            VersionJoins x = new VersionJoins();
            due("branch()", 1, x.branch());
            due("value(1, 0)", 0, x.value(1, 0));
        });
        holds("Promise 16", "0 if there is none", () -> {
            VersionJoins x = with(5);
            x.branch();
            due("value(1, 0)", 5, x.value(1, 0));
            due("value(2, 0)", 0, x.value(2, 0));
            due("value(1, 1)", 0, x.value(1, 1));
            due("value(0, 23)", 0, x.value(0, 23));
            for (int number : FAR) {
                due("value(" + number + ", 0)", 0, x.value(number, 0));
                due("value(0, " + number + ")", 0, x.value(0, number));
                due("value(" + number + ", same)", 0, x.value(number, number));
            }
        });
    }

    private static void promisesOfUses() {
        String where = "Promise 4";
        holds(where, "false if there is no such STEP", () -> {
            VersionJoins x = with(1);
            no("uses(0, 0): no steps", x.uses(0, 0));
            x.step(0);
            no("uses(1, 0)", x.uses(1, 0));
            no("uses(11, 0)", x.uses(11, 0));
            no("uses(12, 0)", x.uses(12, 0));
            for (int step : FAR) {
                no("uses(" + step + ", 0)", x.uses(step, 0));
            }
        });
        holds(where, "or THING", () -> {
            VersionJoins x = new VersionJoins();
            x.step(0);
            no("uses(0, 0): no things", x.uses(0, 0));
            x.thing(1);
            no("uses(0, 1)", x.uses(0, 1));
            no("uses(0, 23)", x.uses(0, 23));
            no("uses(0, 24)", x.uses(0, 24));
            for (int thing : FAR) {
                no("uses(0, " + thing + ")", x.uses(0, thing));
            }
            yes("uses(0, 0)", x.uses(0, 0));
        });
        holds(where, "it USES it", () -> {
            VersionJoins x = with(5, 6, 0);
            addSteps(x, 2, 0);
            yes("uses(0, 0)", x.uses(0, 0));
            yes("uses(0, 1)", x.uses(0, 1));
            no("uses(0, 0) again", x.uses(0, 0));
            no("uses(0, 1) again", x.uses(0, 1));
            yes("uses(1, 0): another step may", x.uses(1, 0));
            x.makes(0, 2);
            x.run(0);
            due("value(0, 2): each once", 11, x.value(0, 2));
            due("from(2, 2)", -1, x.from(2, 2));
        });
        holds(where, "USES 8", () -> {
            VersionJoins x = withThings(24);
            x.step(0);
            for (int i = 0; i < 8; i++) {
                yes("uses", x.uses(0, i));
            }
            yes("run(0)", x.run(0));
            for (int i = 0; i < 24; i++) {
                no("uses", x.uses(0, i));
            }
            no("stale(0): it uses no more", x.stale(0));
        });
        holds(where, "or would USE what it MAKES", () -> {
            VersionJoins x = with(1, 2, 3, 4);
            x.step(0);
            for (int i = 0; i < 4; i++) {
                x.makes(0, i);
                no("uses", x.uses(0, i));
            }
            yes("run(0)", x.run(0));
            dueValues(x, 0, 0, 0, 0, 0);
        });
        holds(where, "through others, too", () -> {
            VersionJoins x = with(1, 2, 3, 4);
            addSteps(x, 3, 0);
            x.makes(0, 0);
            x.uses(1, 0);
            yes("uses(0, 1): made by none yet", x.uses(0, 1));
            x.makes(1, 2);
            no("uses(0, 2): through one", x.uses(0, 2));
            x.uses(2, 2);
            x.makes(2, 3);
            no("uses(0, 3): through two", x.uses(0, 3));
            yes("uses(2, 0): down is no circle", x.uses(2, 0));
        });
    }

    private static void promisesOfMakes() {
        String where = "Promise 5";
        holds(where, "false if there is no such STEP", () -> {
            VersionJoins x = with(1);
            no("makes(0, 0): no steps", x.makes(0, 0));
            x.step(0);
            no("makes(1, 0)", x.makes(1, 0));
            no("makes(11, 0)", x.makes(11, 0));
            no("makes(12, 0)", x.makes(12, 0));
            for (int step : FAR) {
                no("makes(" + step + ", 0)", x.makes(step, 0));
            }
            yes("makes(0, 0): none made it", x.makes(0, 0));
        });
        holds(where, "or THING", () -> {
            VersionJoins x = new VersionJoins();
            x.step(0);
            no("makes(0, 0): no things", x.makes(0, 0));
            x.thing(1);
            no("makes(0, 1)", x.makes(0, 1));
            no("makes(0, 23)", x.makes(0, 23));
            no("makes(0, 24)", x.makes(0, 24));
            for (int thing : FAR) {
                no("makes(0, " + thing + ")", x.makes(0, thing));
            }
            yes("makes(0, 0)", x.makes(0, 0));
        });
        holds(where, "one MAKES it", () -> {
            VersionJoins x = with(1, 2);
            addSteps(x, 12, 0);
            yes("makes(11, 0)", x.makes(11, 0));
            for (int step = 0; step < 12; step++) {
                no("makes(" + step + ", 0)", x.makes(step, 0));
            }
            yes("makes(0, 1)", x.makes(0, 1));
        });
        holds(where, "it MAKES 4", () -> {
            VersionJoins x = withThings(24);
            x.step(0);
            for (int i = 20; i < 24; i++) {
                yes("makes", x.makes(0, i));
            }
            yes("run(0)", x.run(0));
            for (int i = 0; i < 24; i++) {
                no("makes", x.makes(0, i));
            }
            no("stale(0): it makes no more", x.stale(0));
            due("value(0, 19)", 119, x.value(0, 19));
        });
        holds(where, "or USES what is made of it", () -> {
            VersionJoins x = withThings(8);
            x.step(0);
            for (int i = 0; i < 8; i++) {
                x.uses(0, i);
                no("makes what it uses itself", x.makes(0, i));
            }
            VersionJoins y = with(1, 2);
            addSteps(y, 2, 0);
            y.uses(0, 0);
            y.makes(0, 1);
            y.uses(1, 1);
            no("makes(1, 0): 1 is made of 0", y.makes(1, 0));
        });
        holds(where, "through others, too", () -> {
            VersionJoins x = withThings(13);
            addSteps(x, 12, 0);
            for (int i = 0; i < 11; i++) {
                x.uses(i, i);
                x.makes(i, i + 1);
            }
            x.uses(11, 11);
            no("makes(11, 0): through eleven", x.makes(11, 0));
            yes("makes(11, 12)", x.makes(11, 12));
        });
    }

    private static void promisesOfSessions() {
        holds("Promise 7", "0 if it is not OPEN", () -> {
            VersionJoins x = with(5);
            due("read(0, 0): no session", 0, x.read(0, 0));
            x.session();
            due("read(0, 0)", 5, x.read(0, 0));
            due("read(1, 0)", 0, x.read(1, 0));
            due("read(39, 0)", 0, x.read(39, 0));
            due("read(40, 0)", 0, x.read(40, 0));
            for (int session : FAR) {
                due("read(" + session + ", 0)", 0, x.read(session, 0));
            }
            x.write(0, 0, 6);
            x.join(0, false);
            due("read(0, 0): joined", 0, x.read(0, 0));
        });
        holds("Promise 7", "or there is no such THING", () -> {
            VersionJoins x = new VersionJoins();
            x.session();
            due("read(0, 0): no things", 0, x.read(0, 0));
            x.thing(5);
            due("read(0, 1)", 0, x.read(0, 1));
            due("read(0, 23)", 0, x.read(0, 23));
            due("read(0, 24)", 0, x.read(0, 24));
            for (int thing : FAR) {
                due("read(0, " + thing + ")", 0, x.read(0, thing));
            }
            set(x, 0, 6);
            due("read(0, 0): a refused read keeps no base", 6, x.read(0, 0));
            due("join(0, false)", 0, x.join(0, false));
        });
        holds("Promise 8", "false if it is not OPEN", () -> {
            VersionJoins x = with(5);
            no("write(0, 0, 1): no session", x.write(0, 0, 1));
            x.session();
            no("write(1, 0, 1)", x.write(1, 0, 1));
            no("write(39, 0, 1)", x.write(39, 0, 1));
            no("write(40, 0, 1)", x.write(40, 0, 1));
            for (int session : FAR) {
                no("write(" + session + ", 0, 1)", x.write(session, 0, 1));
            }
            x.join(0, false);
            no("write(0, 0, 1): joined", x.write(0, 0, 1));
            due("value(0, 0)", 5, x.value(0, 0));
        });
        holds("Promise 8", "or there is no such THING", () -> {
            VersionJoins x = new VersionJoins();
            x.session();
            no("write(0, 0, 1): no things", x.write(0, 0, 1));
            x.thing(5);
            no("write(0, 1, 1)", x.write(0, 1, 1));
            no("write(0, 23, 1)", x.write(0, 23, 1));
            no("write(0, 24, 1)", x.write(0, 24, 1));
            for (int thing : FAR) {
                no("write(0, " + thing + ", 1)", x.write(0, thing, 1));
            }
            x.thing(7);
            due("join(0, false)", 0, x.join(0, false));
            dueValues(x, 0, 5, 7);
        });
    }

    private static void promisesOfJoins() {
        String where = "Promise 9";
        holds(where, "A SESSION is joined, and not OPEN any more: 0", () -> {
            VersionJoins x = with(1);
            x.session();
            due("join of one that did nothing", 0, x.join(0, false));
            due("join again", -2, x.join(0, false));
        });
        holds(where, "How many CONFLICTS it has (it stays OPEN)", () -> {
            VersionJoins x = withThings(24);
            x.session();
            for (int i = 0; i < 24; i++) {
                x.write(0, i, i % 2 == 0 ? MAX : 3);
            }
            for (int i = 0; i < 24; i++) {
                set(x, i, 1);
                due("join: conflicts stand before the check", i + 1, x.join(0, i % 2 == 0));
            }
            due("value(0, 23): none was joined", 1, x.value(0, 23));
            due("read(0, 23): open", 3, x.read(0, 23));
        });
        holds(where, "-1 the CHECK threw (it stays OPEN)", () -> {
            VersionJoins x = with(1);
            x.session();
            x.write(0, 0, BOUND + 1);
            due("join(0, false)", -1, x.join(0, false));
            due("join(0, false) again", -1, x.join(0, false));
            due("read(0, 0): open", BOUND + 1, x.read(0, 0));
            set(x, 0, 2);
            due("join(0, false): its base is kept", 1, x.join(0, false));
        });
        holds(where, "-2 it is not OPEN", () -> {
            VersionJoins x = with(1);
            due("join(0, false): no session", -2, x.join(0, false));
            x.session();
            x.join(0, false);
            due("join(0, false): joined", -2, x.join(0, false));
            due("join(0, true): joined", -2, x.join(0, true));
            due("join(1, false)", -2, x.join(1, false));
            due("join(39, true)", -2, x.join(39, true));
            due("join(40, true)", -2, x.join(40, true));
            for (int session : FAR) {
                due("join(" + session + ", false)", -2, x.join(session, false));
            }
        });
    }

    private static void promisesOfConflicts() {
        String where = "Promise 10";
        holds(where, "CONFLICT k (by THINGS)", () -> {
            VersionJoins x = withThings(24);
            x.session();
            for (int i = 23; i >= 0; i--) {
                x.read(0, i);
            }
            set(x, 23, 1);
            set(x, 5, 1);
            set(x, 0, 1);
            due("join", 3, x.join(0, false));
            due("conflict(0, 0)", 0, x.conflict(0, 0));
            due("conflict(1, 0)", 5, x.conflict(1, 0));
            due("conflict(2, 0)", 23, x.conflict(2, 0));
        });
        holds(where, "of the last join that had some", () -> {
            VersionJoins x = withConflict();
            due("join", 1, x.join(0, false));
            due("join of one that has none", 0, x.join(x.session(), false));
            due("join of one that throws", -1, x.join(x.session(), true));
            due("join of none", -2, x.join(99, false));
            due("conflict(0, 1): still there", 10, x.conflict(0, 1));
            int other = x.session();
            x.read(other, 1);
            set(x, 1, 22);
            due("join of another that has one", 1, x.join(other, false));
            due("conflict(0, 0)", 1, x.conflict(0, 0));
        });
        holds(where, "1 the SESSION's: what it had written, else its BASE", () -> {
            VersionJoins x = with(1, 2);
            x.session();
            x.write(0, 0, 0);
            x.read(0, 1);
            set(x, 0, 11);
            set(x, 1, 22);
            due("join", 2, x.join(0, false));
            due("conflict(0, 1): written", 0, x.conflict(0, 1));
            due("conflict(1, 1): base", 2, x.conflict(1, 1));
        });
        holds(where, "all as they were at that join", () -> {
            VersionJoins x = withConflict();
            x.join(0, false);
            x.write(0, 0, 15);
            set(x, 0, 16);
            yes("settle(0, 1)", x.settle(0, 1));
            due("conflict(0, 0)", 0, x.conflict(0, 0));
            due("conflict(0, 1)", 10, x.conflict(0, 1));
            due("conflict(0, 2)", 11, x.conflict(0, 2));
        });
        holds(where, "-1 no such one", () -> {
            VersionJoins x = withConflict();
            due("conflict(0, 0): no join had some", -1, x.conflict(0, 0));
            x.join(0, false);
            for (int what = 0; what < 4; what++) {
                due("conflict(1, " + what + ")", -1, x.conflict(1, what));
                due("conflict(23, " + what + ")", -1, x.conflict(23, what));
                due("conflict(24, " + what + ")", -1, x.conflict(24, what));
            }
            for (int k : FAR) {
                due("conflict(" + k + ", 0)", -1, x.conflict(k, 0));
            }
        });
        holds(where, "-1 no such one, of a join that had fewer than an earlier one", () -> {
            VersionJoins x = withConflict();
            x.read(0, 1);
            set(x, 1, 22);
            due("join", 2, x.join(0, false));
            yes("settle(0, 0)", x.settle(0, 0));
            due("join", 1, x.join(0, false));
            due("conflict(0, 0)", 1, x.conflict(0, 0));
            due("conflict(1, 0)", -1, x.conflict(1, 0));
            no("settle(1, 0)", x.settle(1, 0));
        });
        holds(where, "-2 another what", () -> {
            VersionJoins x = withConflict();
            x.join(0, false);
            due("conflict(0, 3)", -2, x.conflict(0, 3));
            for (int what : FAR) {
                due("conflict(0, " + what + ")", -2, x.conflict(0, what));
            }
        });
    }

    private static void promisesOfSettles() {
        String where = "Promise 11";
        holds(where, "side 0: the SESSION's stays (its BASE is the VALUE of then from now on)", () -> {
            VersionJoins x = withConflict();
            x.join(0, false);
            set(x, 0, 12);
            yes("settle(0, 0)", x.settle(0, 0));
            due("read(0, 0)", 10, x.read(0, 0));
            due("join: 12 is not the VALUE of then", 1, x.join(0, false));
            set(x, 0, 11);
            due("join: 11 is", 0, x.join(0, false));
            due("value(0, 0)", 10, x.value(0, 0));
        });
        holds(where, "1: the other one (likewise, and what it wrote there is gone)", () -> {
            VersionJoins x = withConflict();
            x.join(0, false);
            yes("settle(0, 1)", x.settle(0, 1));
            due("read(0, 0): the base", 11, x.read(0, 0));
            set(x, 0, 10);
            due("join: 10 is not what it wrote any more", 1, x.join(0, false));
            set(x, 0, 11);
            due("join: 11 is the base", 0, x.join(0, false));
            due("value(0, 0)", 11, x.value(0, 0));
        });
        holds(where, "1: what it wrote there is gone, and is not checked", () -> {
            VersionJoins x = withConflict();
            x.write(0, 0, BOUND + 1);
            due("join", 1, x.join(0, false));
            yes("settle(0, 1)", x.settle(0, 1));
            due("join: nothing is above", 0, x.join(0, false));
        });
        holds(where, "either side of what it read alone: there is nothing written to stay or go", () -> {
            for (int side = 0; side < 2; side++) {
                VersionJoins x = with(1);
                x.session();
                x.read(0, 0);
                set(x, 0, 11);
                due("join", 1, x.join(0, false));
                yes("settle(0, " + side + ")", x.settle(0, side));
                due("read(0, 0): the base", 11, x.read(0, 0));
                due("join", 0, x.join(0, false));
                due("value(0, 0)", 11, x.value(0, 0));
            }
        });
        holds(where, "False if there is no such CONFLICT", () -> {
            VersionJoins x = withConflict();
            no("settle(0, 0): no join had some", x.settle(0, 0));
            x.join(0, false);
            no("settle(1, 0)", x.settle(1, 0));
            no("settle(23, 0)", x.settle(23, 0));
            no("settle(24, 1)", x.settle(24, 1));
            for (int k : FAR) {
                no("settle(" + k + ", 0)", x.settle(k, 0));
                no("settle(" + k + ", 1)", x.settle(k, 1));
            }
            yes("settle(0, 0)", x.settle(0, 0));
        });
        holds(where, "or side", () -> {
            VersionJoins x = withConflict();
            x.join(0, false);
            no("settle(0, 2)", x.settle(0, 2));
            for (int side : FAR) {
                no("settle(0, " + side + ")", x.settle(0, side));
            }
            due("join: nothing is settled", 1, x.join(0, false));
            yes("settle(0, 1): nor by refused calls", x.settle(0, 1));
        });
        holds(where, "it is settled", () -> {
            for (int side = 0; side < 2; side++) {
                VersionJoins x = withConflict();
                x.join(0, false);
                yes("settle(0, side)", x.settle(0, side));
                no("settle(0, 0)", x.settle(0, 0));
                no("settle(0, 1)", x.settle(0, 1));
                due("read(0, 0): the first side counts", side == 0 ? 10 : 11, x.read(0, 0));
                set(x, 0, 12);
                due("join: a new one of the same number", 1, x.join(0, false));
                yes("settle(0, 0) of the new one", x.settle(0, 0));
            }
        });
        holds(where, "or the SESSION is not OPEN any more", () -> {
            VersionJoins x = withConflict();
            x.join(0, false);
            set(x, 0, 1);
            due("join: the base is there again", 0, x.join(0, false));
            no("settle(0, 0)", x.settle(0, 0));
            no("settle(0, 1)", x.settle(0, 1));
            due("conflict(0, 1): it can be looked at", 10, x.conflict(0, 1));
        });
    }

    private static void promisesOfSteps() {
        holds("Promise 12", "false if there is none", () -> {
            VersionJoins x = new VersionJoins();
            no("stale(0): no steps", x.stale(0));
            x.step(0);
            yes("stale(0)", x.stale(0));
            no("stale(1)", x.stale(1));
            no("stale(11)", x.stale(11));
            no("stale(12)", x.stale(12));
            for (int step : FAR) {
                no("stale(" + step + ")", x.stale(step));
            }
        });
        holds("Promise 14", "those that the STEP that MAKES it USED in its last run", () -> {
            VersionJoins x = withThings(10);
            x.step(1);
            for (int i = 0; i < 7; i++) {
                x.uses(0, i);
            }
            x.makes(0, 9);
            x.run(0);
            due("from(9, 6)", 6, x.from(9, 6));
            x.uses(0, 8);
            due("from(9, 7): not in its last run", -1, x.from(9, 7));
            x.run(0);
            due("from(9, 7): now", 8, x.from(9, 7));
            due("from(9, 8)", -1, x.from(9, 8));
        });
        holds("Promise 14", "if the THING has the VALUE still that it made", () -> {
            VersionJoins x = with(5, 0, 0);
            x.step(0);
            x.uses(0, 0);
            x.makes(0, 1);
            x.makes(0, 2);
            x.run(0);
            set(x, 1, 6);
            due("from(1, 0)", -1, x.from(1, 0));
            due("from(2, 0): still", 0, x.from(2, 0));
            set(x, 0, 7);
            due("from(2, 0): stale, but still", 0, x.from(2, 0));
        });
        holds("Promise 14", "of which a THING was made: not by being told behind the last run", () -> {
            VersionJoins x = with(5, 0, 5, 5, 5);
            x.step(0);
            x.uses(0, 0);
            x.makes(0, 1);
            x.run(0);
            x.makes(0, 2);
            x.makes(0, 3);
            due("from(2, 0): its VALUE is that of the last run by chance", -1, x.from(2, 0));
            due("from(3, 0): likewise", -1, x.from(3, 0));
            due("from(1, 0)", 0, x.from(1, 0));
            x.run(0);
            due("from(3, 0)", 0, x.from(3, 0));
        });
        holds("Promise 14", "-1 if there is none such", () -> {
            VersionJoins x = with(0, 0);
            due("from(0, 0): made by none", -1, x.from(0, 0));
            x.step(0);
            x.makes(0, 1);
            due("from(1, 0): it did not run", -1, x.from(1, 0));
            x.run(0);
            due("from(1, 0): it used none", -1, x.from(1, 0));
            x.uses(0, 0);
            x.run(0);
            due("from(1, 0)", 0, x.from(1, 0));
            due("from(1, 1)", -1, x.from(1, 1));
            due("from(0, 0): made by none", -1, x.from(0, 0));
            due("from(2, 0)", -1, x.from(2, 0));
            due("from(23, 0)", -1, x.from(23, 0));
            due("from(24, 0)", -1, x.from(24, 0));
            for (int number : FAR) {
                due("from(1, " + number + ")", -1, x.from(1, number));
                due("from(" + number + ", 0)", -1, x.from(number, 0));
            }
        });
        holds("Promise 15", "whether it was STALE, and did", () -> {
            VersionJoins x = with(5, 5);
            x.step(0);
            x.uses(0, 0);
            x.makes(0, 1);
            yes("run(0): though nothing changes", x.run(0));
            no("run(0)", x.run(0));
            set(x, 0, 6);
            yes("run(0)", x.run(0));
            no("run(0)", x.run(0));
        });
        holds("Promise 15", "a STEP that there is not", () -> {
            VersionJoins x = with(5);
            no("run(0): no steps", x.run(0));
            x.step(0);
            x.makes(0, 0);
            no("run(1)", x.run(1));
            no("run(11)", x.run(11));
            no("run(12)", x.run(12));
            for (int step : FAR) {
                no("run(" + step + ")", x.run(step));
            }
            due("value(0, 0): none ran", 5, x.value(0, 0));
        });
    }

    /** The seed with which x is this in the first turn: the factor is odd, so it has an inverse. */
    private static long seedOf(long x) {
        long inverse = 1;
        for (int i = 0; i < 6; i++) {
            inverse *= 2 - 6364136223846793005L * inverse;
        }
        return (x - 1442695040888963407L) * inverse;
    }

    private static void promisesOfPlay() {
        String where = "Promise 17";
        holds(where, "So many turns (0 .. 50", () -> {
            VersionJoins x = with(1000, 1000, 1000, 1000, 1000);
            due("play(5, 0)", 0, x.play(5, 0));
            dueValues(x, 0, 1000, 1000, 1000, 1000, 1000);
            due("play(5, 1)", 1, x.play(5, 1));
            VersionJoins once = with(1000);
            int changes = 0;
            long turn = 5;
            long last = 1000;
            for (int i = 0; i < 50; i++) {
                turn = turn * 6364136223846793005L + 1442695040888963407L;
                changes += ((turn >>> 20) & 255) == last ? 0 : 1;
                last = (turn >>> 20) & 255;
            }
            due("play(5, 50)", changes, once.play(5, 50));
            due("value(0, 0): of the 50th turn", last, once.value(0, 0));
        });
        holds(where, "0 for another number)", () -> {
            VersionJoins x = with(1000);
            due("play(5, 51)", 0, x.play(5, 51));
            for (int turns : FAR) {
                due("play(5, " + turns + ")", 0, x.play(5, turns));
            }
            due("value(0, 0): no turns", 1000, x.value(0, 0));
        });
        holds(where, "longs run over", () -> {
            for (long seed : new long[] {MIN, MAX, -1, 0, 1}) {
                VersionJoins x = with(1000);
                long turn = seed * 6364136223846793005L + 1442695040888963407L;
                due("play(" + seed + ", 1)", 1, x.play(seed, 1));
                due("value(0, 0)", (turn >>> 20) & 255, x.value(0, 0));
            }
        });
        holds(where, "the THING of the number (x >>> 33) modulo how many there are", () -> {
            for (int count = 1; count <= 24; count++) {
                for (long turn : new long[] {-1, MIN, MAX, 0, (count - 1L) << 33, (long) count << 33}) {
                    VersionJoins x = withThings(count);
                    int thing = (int) ((turn >>> 33) % count);
                    long v = (turn >>> 20) & 255;
                    x.play(seedOf(turn), 1);
                    for (int i = 0; i < count; i++) {
                        due("value(0, " + i + ") at x = " + turn, i == thing ? v : 100 + i, x.value(0, i));
                    }
                }
            }
        });
        holds(where, "gets the VALUE (x >>> 20) & 255", () -> {
            long[][] rows = {{0, 0}, {(1L << 20) - 1, 0}, {1L << 20, 1}, {255L << 20, 255}, {1L << 28, 0}, {-1, 255}};
            for (long[] turn : rows) {
                VersionJoins x = with(1000);
                due("play", 1, x.play(seedOf(turn[0]), 1));
                due("value(0, 0) at x = " + turn[0], turn[1], x.value(0, 0));
            }
        });
        holds(where, "in BRANCH 0", () -> {
            VersionJoins x = with(1000);
            x.branch();
            x.play(seedOf(-1), 1);
            due("value(0, 0)", 255, x.value(0, 0));
            due("value(1, 0)", 1000, x.value(1, 0));
        });
        holds(where, "as by a SESSION of its own (that is not numbered)", () -> {
            VersionJoins x = with(1000);
            due("session()", 0, x.session());
            x.read(0, 0);
            due("play", 1, x.play(seedOf(-1), 1));
            due("session(): the next number", 1, x.session());
            due("join(0, false): that one was not it", 1, x.join(0, false));
            for (int i = 2; i < 40; i++) {
                x.session();
            }
            due("play: there are 40", 1, x.play(seedOf(0), 1));
        });
        holds(where, "if x is below 0", () -> {
            for (long turn : new long[] {MIN, -1, 0, 1, MAX}) {
                VersionJoins x = with(1000);
                x.step(0);
                x.play(seedOf(turn), 1);
                due("stale(0) at x = " + turn, turn < 0 ? 0 : 1, x.stale(0) ? 1 : 0);
            }
        });
        holds(where, "all STEPS RUN, by their numbers", () -> {
            VersionJoins x = withThings(13);
            addSteps(x, 12, 0);
            for (int i = 0; i < 12; i++) {
                x.uses(11 - i, i);
                x.makes(11 - i, i + 1);
            }
            due("play: all things change", 13, x.play(seedOf(below0(13, 0, 7)), 1));
            for (int i = 0; i < 12; i++) {
                no("stale(" + i + ")", x.stale(i));
            }
            due("value(0, 12)", 7, x.value(0, 12));
            VersionJoins none = with(1000);
            due("play: no steps", 1, none.play(seedOf(-1), 1));
        });
        holds(where, "How many CHANGES there were by all", () -> {
            VersionJoins x = with(1000, 1000, 1000, 1000, 1000);
            x.step(0);
            x.uses(0, 0);
            for (int i = 1; i < 5; i++) {
                x.makes(0, i);
            }
            due("play: a join and four by a run", 5, x.play(seedOf(below0(5, 0, 9)), 1));
            due("play: the same again", 0, x.play(seedOf(below0(5, 0, 9)), 1));
            due("play: a join, and a run that undoes it", 2, x.play(seedOf(below0(5, 4, 8)), 1));
            dueValues(x, 0, 9, 9, 9, 9, 9);
        });
        holds(where, "(Without THINGS none.)", () -> {
            VersionJoins x = new VersionJoins();
            due("play(1, 50)", 0, x.play(1, 50));
            x.step(0);
            due("play(seed of x = -1, 1)", 0, x.play(seedOf(-1), 1));
            due("play(1, 0)", 0, x.play(1, 0));
            due("thing(1)", 0, x.thing(1));
        });
    }

    /** An x below 0 at which this one of so many things gets this value. */
    private static long below0(int count, int thing, long v) {
        long number = 1L << 30;
        while (number % count != thing) {
            number++;
        }
        return (number << 33) | (v << 20);
    }
}
