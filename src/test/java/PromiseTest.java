/** For each promise of the document: ordinary calls, the edges that it names, and wrong arguments. */
public final class PromiseTest {
    private static final long TRILLION = 1_000_000_000_000L;
    private static final int[] NO_NUMBERS = {-1, 99, Integer.MIN_VALUE, Integer.MAX_VALUE};

    private static int promise = 0;
    private static int wrong = 0;

    public static void main(String[] args) {
        promise = 1; newObject();
        promise = 2; things();
        promise = 3; steps();
        promise = 4; usesOrdinary(); usesInCircles();
        promise = 5; makesOrdinary(); makesInCircles();
        promise = 6; sessions();
        promise = 7; reads();
        promise = 8; writes(); writesKeepTheBase();
        promise = 9; joins(); joinChecks(); joinsOfEqualWrites(); joinsOfAllThings();
        promise = 10; conflicts(); conflictsStayAsTheyWere();
        promise = 11; settles(); settlesToTheValueOfThen(); settlesOfReads(); settlesRefused();
        promise = 12; staleByItself(); staleByOthers();
        promise = 13; branches();
        promise = 14; froms(); fromAfterMore();
        promise = 15; runs(); runsOfKinds(); runsThatAreSpared(); runsOfAllSteps();
        promise = 16; values();
        promise = 17; plays(); playsWithSteps(); playsAtZero(); playsWithoutThings();
        System.out.println(wrong == 0 ? "all promises hold" : wrong + " answers are not as due");
        if (wrong != 0) {
            System.exit(1);
        }
    }

    private static void due(String call, long want, long got) {
        if (want != got) {
            wrong++;
            System.out.println("promise " + promise + ": " + call + " answered " + got + ", due is " + want);
        }
    }

    private static void yes(String call, boolean got) {
        due(call, 1, got ? 1 : 0);
    }

    private static void no(String call, boolean got) {
        due(call, 0, got ? 1 : 0);
    }

    /** An object with things 0, 1, .. of these values. */
    private static VersionJoins with(long... values) {
        VersionJoins x = new VersionJoins();
        for (long v : values) {
            x.thing(v);
        }
        return x;
    }

    /** A session of its own writes the value and is joined. */
    private static void set(VersionJoins x, int thing, long v) {
        int session = x.session();
        yes("write", x.write(session, thing, v));
        due("join", 0, x.join(session, false));
    }

    private static void newObject() {
        VersionJoins x = new VersionJoins();
        due("value(0, 0)", 0, x.value(0, 0));
        no("uses(0, 0)", x.uses(0, 0));
        no("makes(0, 0)", x.makes(0, 0));
        due("read(0, 0)", 0, x.read(0, 0));
        no("write(0, 0, 1)", x.write(0, 0, 1));
        due("join(0, false)", -2, x.join(0, false));
        due("conflict(0, 0)", -1, x.conflict(0, 0));
        due("conflict(0, 9)", -1, x.conflict(0, 9));
        no("settle(0, 0)", x.settle(0, 0));
        no("stale(0)", x.stale(0));
        no("run(0)", x.run(0));
        due("from(0, 0)", -1, x.from(0, 0));
        due("play(1, 50)", 0, x.play(1, 50));
        due("branch()", 1, x.branch());
        due("thing(3)", 0, x.thing(3));
        due("step(0)", 0, x.step(0));
        due("session()", 0, x.session());
        VersionJoins other = new VersionJoins();
        due("value(0, 0) of another object", 0, other.value(0, 0));
        due("branch() of another object", 1, other.branch());
    }

    private static void things() {
        VersionJoins x = new VersionJoins();
        due("branch()", 1, x.branch());
        for (int i = 0; i < 24; i++) {
            due("thing", i, x.thing(i * 7L - 5));
        }
        due("thing, the 25th", -1, x.thing(1));
        for (int i = 0; i < 24; i++) {
            due("value in branch 0", i * 7L - 5, x.value(0, i));
            due("value in branch 1", i * 7L - 5, x.value(1, i));
            due("value in no branch", 0, x.value(2, i));
        }
        VersionJoins y = with(Long.MAX_VALUE, Long.MIN_VALUE);
        due("value(0, 0)", Long.MAX_VALUE, y.value(0, 0));
        due("value(0, 1)", Long.MIN_VALUE, y.value(0, 1));
    }

    private static void steps() {
        VersionJoins x = new VersionJoins();
        due("step(-1)", -2, x.step(-1));
        due("step(4)", -2, x.step(4));
        due("step(MIN)", -2, x.step(Integer.MIN_VALUE));
        due("step(MAX)", -2, x.step(Integer.MAX_VALUE));
        for (int i = 0; i < 12; i++) {
            due("step", i, x.step(i % 4));
        }
        due("step(0), the 13th", -1, x.step(0));
        due("step(3), the 13th", -1, x.step(3));
        due("step(4), the 13th", -2, x.step(4));
    }

    private static void usesOrdinary() {
        VersionJoins x = with(1, 2, 3, 4, 5, 6, 7, 8, 9);
        x.step(0);
        for (int number : NO_NUMBERS) {
            no("uses, no step", x.uses(number, 0));
            no("uses, no thing", x.uses(0, number));
        }
        no("uses(0, 9)", x.uses(0, 9));
        no("uses(1, 0)", x.uses(1, 0));
        for (int i = 7; i >= 0; i--) {
            yes("uses", x.uses(0, i));
            no("uses again", x.uses(0, i));
        }
        no("uses(0, 8), the 9th", x.uses(0, 8));
        yes("run(0)", x.run(0));
        no("makes(0, 3) that it uses", x.makes(0, 3));
        yes("makes(0, 8)", x.makes(0, 8));
        yes("run(0)", x.run(0));
        due("value(0, 8)", 36, x.value(0, 8));
        due("from(8, 0): the first that was told", 7, x.from(8, 0));
    }

    private static void usesInCircles() {
        VersionJoins x = with(1, 2, 3, 4, 5);
        for (int i = 0; i < 4; i++) {
            x.step(0);
        }
        yes("makes(0, 0)", x.makes(0, 0));
        no("uses(0, 0): what it makes", x.uses(0, 0));
        yes("makes(1, 1)", x.makes(1, 1));
        yes("makes(2, 2)", x.makes(2, 2));
        yes("uses(2, 1)", x.uses(2, 1));
        yes("uses(1, 0)", x.uses(1, 0));
        no("uses(0, 1): through one", x.uses(0, 1));
        no("uses(0, 2): through two, linked last above", x.uses(0, 2));
        no("uses(1, 2)", x.uses(1, 2));
        yes("uses(2, 0): no circle", x.uses(2, 0));
        yes("uses(3, 2)", x.uses(3, 2));
        yes("uses(0, 3)", x.uses(0, 3));
        yes("makes(3, 4)", x.makes(3, 4));
        no("uses(0, 4): through three", x.uses(0, 4));
    }

    private static void makesOrdinary() {
        VersionJoins x = with(1, 2, 3, 4, 5, 6);
        x.step(0);
        x.step(1);
        for (int number : NO_NUMBERS) {
            no("makes, no step", x.makes(number, 0));
            no("makes, no thing", x.makes(0, number));
        }
        yes("uses(0, 5)", x.uses(0, 5));
        for (int i = 0; i < 4; i++) {
            yes("makes", x.makes(0, i));
            no("makes again", x.makes(0, i));
            no("makes by another", x.makes(1, i));
        }
        no("makes(0, 4), the 5th", x.makes(0, 4));
        yes("makes(1, 4)", x.makes(1, 4));
        yes("run(0)", x.run(0));
        for (int i = 0; i < 4; i++) {
            due("value that is made", 6, x.value(0, i));
        }
        due("value that is not made by it", 5, x.value(0, 4));
    }

    private static void makesInCircles() {
        VersionJoins x = with(1, 2, 3, 4);
        for (int i = 0; i < 4; i++) {
            x.step(0);
        }
        yes("uses(0, 0)", x.uses(0, 0));
        no("makes(0, 0): what it uses", x.makes(0, 0));
        yes("makes(0, 1)", x.makes(0, 1));
        yes("uses(1, 1)", x.uses(1, 1));
        no("makes(1, 0): made of it through one", x.makes(1, 0));
        yes("uses(2, 2)", x.uses(2, 2));
        yes("makes(1, 2)", x.makes(1, 2));
        no("makes(2, 0): made of it through two", x.makes(2, 0));
        yes("makes(3, 0): no circle", x.makes(3, 0));
        no("uses(3, 2): above by the make", x.uses(3, 2));
        yes("uses(3, 3)", x.uses(3, 3));
        no("makes(2, 3): made of it through three", x.makes(2, 3));
    }

    private static void sessions() {
        VersionJoins x = with(1);
        for (int i = 0; i < 40; i++) {
            due("session()", i, x.session());
            due("join of an open one", i % 2 == 0 ? 0 : -1, x.join(i, i % 2 != 0));
        }
        due("session(), the 41st", -1, x.session());
        due("join(40, false)", -2, x.join(40, false));
    }

    private static void reads() {
        VersionJoins x = with(5, 6);
        x.session();
        for (int number : NO_NUMBERS) {
            due("read, no session", 0, x.read(number, 0));
            due("read, no thing", 0, x.read(0, number));
        }
        due("read(0, 2)", 0, x.read(0, 2));
        due("read(1, 0)", 0, x.read(1, 0));
        due("read(0, 0)", 5, x.read(0, 0));
        set(x, 0, 50);
        set(x, 1, 60);
        due("read(0, 0): its base", 5, x.read(0, 0));
        due("read(0, 1): first read now", 60, x.read(0, 1));
        x.write(0, 1, 7);
        x.write(0, 1, 8);
        due("read(0, 1): what it wrote last", 8, x.read(0, 1));
        due("value(0, 1): not joined", 60, x.value(0, 1));
        due("read(1, 0): joined", 0, x.read(1, 0));
        due("thing(9)", 2, x.thing(9));
        due("read(0, 2): a thing of later", 9, x.read(0, 2));
    }

    private static void writes() {
        VersionJoins x = with(5, 6);
        x.session();
        for (int number : NO_NUMBERS) {
            no("write, no session", x.write(number, 0, 1));
            no("write, no thing", x.write(0, number, 1));
        }
        no("write(0, 2, 1)", x.write(0, 2, 1));
        no("write(1, 0, 1)", x.write(1, 0, 1));
        yes("write(0, 0, MIN)", x.write(0, 0, Long.MIN_VALUE));
        due("read(0, 0)", Long.MIN_VALUE, x.read(0, 0));
        yes("write(0, 0, 3)", x.write(0, 0, 3));
        set(x, 0, 4);
        due("join(0, false): the base is of the first write", 1, x.join(0, false));
        yes("settle(0, 0)", x.settle(0, 0));
        due("join(0, false)", 0, x.join(0, false));
        due("value(0, 0)", 3, x.value(0, 0));
        due("value(0, 1): not written", 6, x.value(0, 1));
        no("write(0, 0, 1): joined", x.write(0, 0, 1));
    }

    /** No read here: it would keep the base by itself. */
    private static void writesKeepTheBase() {
        VersionJoins x = with(5);
        x.session();
        yes("write(0, 0, 7)", x.write(0, 0, 7));
        set(x, 0, 6);
        yes("write(0, 0, 8)", x.write(0, 0, 8));
        due("join(0, false): the base is 5 still", 1, x.join(0, false));
        due("conflict(0, 1)", 8, x.conflict(0, 1));
        set(x, 0, 5);
        due("join(0, false): the value is the base again", 0, x.join(0, false));
        due("value(0, 0)", 8, x.value(0, 0));
    }

    private static void joins() {
        VersionJoins x = with(5, 6, 7);
        for (int number : NO_NUMBERS) {
            due("join, no session", -2, x.join(number, false));
            due("join, no session", -2, x.join(number, true));
        }
        x.session();
        x.session();
        x.read(0, 0);
        x.write(0, 1, 60);
        x.write(0, 2, 70);
        x.write(1, 0, 50);
        x.write(1, 1, 61);
        due("join(1, false)", 0, x.join(1, false));
        due("join(0, true): conflicts come first", 2, x.join(0, true));
        due("value(0, 2): nothing of it is joined", 7, x.value(0, 2));
        set(x, 0, 5);
        due("join(0, false): one is gone", 1, x.join(0, false));
        set(x, 1, 6);
        due("join(0, false): both are gone", 0, x.join(0, false));
        due("value(0, 1)", 60, x.value(0, 1));
        due("value(0, 2)", 70, x.value(0, 2));
        due("join(0, false): joined", -2, x.join(0, false));
        due("join(0, true): joined", -2, x.join(0, true));
    }

    private static void joinChecks() {
        VersionJoins x = with(1, 2, Long.MAX_VALUE);
        x.session();
        due("join(0, true) of none", -1, x.join(0, true));
        x.write(0, 0, TRILLION);
        x.write(0, 1, TRILLION + 1);
        due("join(0, false): above", -1, x.join(0, false));
        due("value(0, 0): as it was", 1, x.value(0, 0));
        x.write(0, 1, -TRILLION - 1);
        due("join(0, false): below", -1, x.join(0, false));
        x.write(0, 1, -TRILLION);
        due("join(0, true): told to throw", -1, x.join(0, true));
        due("value(0, 1): as it was", 2, x.value(0, 1));
        due("read(0, 1): it stays open", -TRILLION, x.read(0, 1));
        due("read(0, 2): reads are not checked", Long.MAX_VALUE, x.read(0, 2));
        due("join(0, false)", 0, x.join(0, false));
        due("value(0, 0)", TRILLION, x.value(0, 0));
        due("value(0, 1)", -TRILLION, x.value(0, 1));
        x.session();
        x.write(1, 2, Long.MAX_VALUE);
        due("join(1, false): written, though the same", -1, x.join(1, false));
        x.write(1, 2, Long.MIN_VALUE);
        due("join(1, false): far below", -1, x.join(1, false));
    }

    private static void joinsOfEqualWrites() {
        VersionJoins x = with(1, 2);
        x.session();
        x.write(0, 0, 9);
        x.read(0, 1);
        set(x, 0, 9);
        due("join(0, false): both wrote the same", 0, x.join(0, false));
        x.session();
        x.read(2, 0);
        set(x, 0, 10);
        due("join(2, false): a read is enough", 1, x.join(2, false));
    }

    private static void joinsOfAllThings() {
        VersionJoins x = new VersionJoins();
        for (int i = 0; i < 24; i++) {
            x.thing(i);
        }
        for (int session = 0; session < 2; session++) {
            x.session();
            for (int i = 0; i < 24; i++) {
                yes("write", x.write(session, i, 100 * (session + 1) + i));
            }
        }
        due("join(0, false)", 0, x.join(0, false));
        due("join(1, false)", 24, x.join(1, false));
        for (int i = 0; i < 24; i++) {
            due("value", 100 + i, x.value(0, i));
            due("conflict(k, 1)", 200 + i, x.conflict(i, 1));
            yes("settle(k, 0)", x.settle(i, 0));
        }
        due("join(1, false)", 0, x.join(1, false));
        due("value(0, 23)", 223, x.value(0, 23));
    }

    private static void conflicts() {
        VersionJoins x = with(1, 2, 3, 4);
        x.session();
        x.write(0, 3, 40);
        x.read(0, 1);
        x.read(0, 0);
        set(x, 3, 44);
        set(x, 1, 22);
        due("join(0, false)", 2, x.join(0, false));
        long[][] want = {{1, 2, 22}, {3, 40, 44}};
        for (int k = 0; k < 2; k++) {
            for (int what = 0; what < 3; what++) {
                due("conflict", want[k][what], x.conflict(k, what));
            }
            for (int number : NO_NUMBERS) {
                due("conflict, another what", -2, x.conflict(k, number));
            }
            due("conflict(k, 3)", -2, x.conflict(k, 3));
        }
        for (int number : NO_NUMBERS) {
            due("conflict, no such one", -1, x.conflict(number, 0));
            due("conflict, no such one, another what", -1, x.conflict(number, number));
        }
        due("conflict(2, 0)", -1, x.conflict(2, 0));
    }

    private static void conflictsStayAsTheyWere() {
        VersionJoins x = with(1, 2);
        x.session();
        x.write(0, 0, 10);
        set(x, 0, 11);
        due("join(0, false)", 1, x.join(0, false));
        x.write(0, 0, 12);
        set(x, 0, 13);
        x.session();
        due("join(3, true): has none", -1, x.join(3, true));
        due("join(99, false)", -2, x.join(99, false));
        due("conflict(0, 1): of then", 10, x.conflict(0, 1));
        due("conflict(0, 2): of then", 11, x.conflict(0, 2));
        yes("settle(0, 1)", x.settle(0, 1));
        due("conflict(0, 1): settled", 10, x.conflict(0, 1));
        x.read(3, 1);
        set(x, 1, 20);
        due("join(3, false): the last one now", 1, x.join(3, false));
        due("conflict(0, 0)", 1, x.conflict(0, 0));
        due("conflict(0, 1)", 2, x.conflict(0, 1));
        due("conflict(0, 2)", 20, x.conflict(0, 2));
    }

    private static void settles() {
        VersionJoins x = with(1, 2);
        x.session();
        x.write(0, 0, 10);
        x.write(0, 1, 20);
        set(x, 0, 11);
        set(x, 1, 21);
        due("join(0, false)", 2, x.join(0, false));
        yes("settle(0, 0)", x.settle(0, 0));
        due("read(0, 0): its own stays", 10, x.read(0, 0));
        due("join(0, false): the other is left", 1, x.join(0, false));
        due("conflict(0, 0)", 1, x.conflict(0, 0));
        yes("settle(0, 1)", x.settle(0, 1));
        due("read(0, 1): what it wrote is gone", 21, x.read(0, 1));
        no("settle(0, 1) again", x.settle(0, 1));
        no("settle(0, 0) again", x.settle(0, 0));
        due("join(0, false)", 0, x.join(0, false));
        due("value(0, 0)", 10, x.value(0, 0));
        due("value(0, 1)", 21, x.value(0, 1));
    }

    private static void settlesToTheValueOfThen() {
        for (int side = 0; side < 2; side++) {
            VersionJoins x = with(1);
            x.session();
            x.write(0, 0, 10);
            set(x, 0, 11);
            due("join(0, false)", 1, x.join(0, false));
            x.write(0, 0, 15);
            set(x, 0, 12);
            yes("settle(0, side)", x.settle(0, side));
            due("read(0, 0)", side == 0 ? 15 : 11, x.read(0, 0));
            due("join(0, false): changed since then", 1, x.join(0, false));
            due("conflict(0, 1)", side == 0 ? 15 : 11, x.conflict(0, 1));
            due("conflict(0, 2)", 12, x.conflict(0, 2));
            yes("settle(0, side)", x.settle(0, side));
            due("join(0, false)", 0, x.join(0, false));
            due("value(0, 0)", side == 0 ? 15 : 12, x.value(0, 0));
        }
    }

    private static void settlesOfReads() {
        for (int side = 0; side < 2; side++) {
            VersionJoins x = with(1);
            x.session();
            x.read(0, 0);
            set(x, 0, 11);
            due("join(0, false)", 1, x.join(0, false));
            yes("settle(0, side)", x.settle(0, side));
            due("read(0, 0): the base is that of then", 11, x.read(0, 0));
            due("join(0, false)", 0, x.join(0, false));
            due("value(0, 0): nothing was written", 11, x.value(0, 0));
        }
    }

    private static void settlesRefused() {
        VersionJoins x = with(1);
        x.session();
        x.write(0, 0, 10);
        set(x, 0, 11);
        due("join(0, false)", 1, x.join(0, false));
        for (int number : NO_NUMBERS) {
            no("settle, no conflict", x.settle(number, 0));
            no("settle, no side", x.settle(0, number));
        }
        no("settle(1, 0)", x.settle(1, 0));
        no("settle(0, 2)", x.settle(0, 2));
        due("join(0, false): nothing was settled", 1, x.join(0, false));
        set(x, 0, 1);
        due("join(0, false): it is gone", 0, x.join(0, false));
        no("settle(0, 0): not open", x.settle(0, 0));
        no("settle(0, 1): not open", x.settle(0, 1));
        due("conflict(0, 1)", 10, x.conflict(0, 1));
    }

    private static void staleByItself() {
        VersionJoins x = with(1, 2, 3, 4);
        x.step(0);
        for (int number : NO_NUMBERS) {
            no("stale, no step", x.stale(number));
        }
        no("stale(1)", x.stale(1));
        yes("stale(0): did not run yet", x.stale(0));
        yes("run(0)", x.run(0));
        no("stale(0)", x.stale(0));
        yes("uses(0, 0)", x.uses(0, 0));
        yes("stale(0): uses more", x.stale(0));
        yes("run(0)", x.run(0));
        yes("makes(0, 1)", x.makes(0, 1));
        yes("stale(0): makes more", x.stale(0));
        yes("run(0)", x.run(0));
        no("stale(0)", x.stale(0));
        set(x, 0, 7);
        yes("stale(0): used one is another", x.stale(0));
        set(x, 0, 1);
        no("stale(0): it is again what it was", x.stale(0));
        set(x, 1, 9);
        yes("stale(0): made one is another", x.stale(0));
        set(x, 1, 1);
        no("stale(0): it is again what it made", x.stale(0));
        set(x, 2, 30);
        no("stale(0): of no concern", x.stale(0));
        yes("makes(0, 3)", x.makes(0, 3));
        set(x, 3, 1);
        yes("stale(0): makes more, though of the same value", x.stale(0));
    }

    private static void staleByOthers() {
        VersionJoins x = with(1, 2, 3, 4);
        for (int i = 0; i < 3; i++) {
            x.step(0);
        }
        x.uses(0, 0);
        x.makes(0, 1);
        x.uses(1, 1);
        x.makes(1, 2);
        x.uses(2, 2);
        yes("run(2)", x.run(2));
        for (int i = 0; i < 3; i++) {
            no("stale: all ran", x.stale(i));
        }
        set(x, 0, 5);
        for (int i = 0; i < 3; i++) {
            yes("stale: through others", x.stale(i));
        }
        set(x, 0, 1);
        no("stale(2)", x.stale(2));
        set(x, 2, 77);
        no("stale(0): above", x.stale(0));
        yes("stale(1)", x.stale(1));
        yes("stale(2)", x.stale(2));
        x.step(0);
        yes("makes(3, 0)", x.makes(3, 0));
        set(x, 2, 1);
        yes("stale(2): one above did not run yet", x.stale(2));
    }

    private static void branches() {
        VersionJoins x = with(1, 2);
        for (int b = 1; b < 6; b++) {
            due("value in no branch", 0, x.value(b, 1));
            due("branch()", b, x.branch());
            set(x, 0, b * 10);
        }
        due("branch(), the 7th", -1, x.branch());
        due("value(0, 0)", 50, x.value(0, 0));
        due("value(1, 0)", 1, x.value(1, 0));
        for (int b = 2; b < 6; b++) {
            due("value of a copy", (b - 1) * 10L, x.value(b, 0));
        }
        x.step(0);
        x.makes(0, 1);
        yes("run(0)", x.run(0));
        due("value(0, 1): a run is in branch 0", 0, x.value(0, 1));
        due("value(5, 1)", 2, x.value(5, 1));
    }

    private static void froms() {
        VersionJoins x = with(1, 2, 3, 4);
        x.step(0);
        x.uses(0, 2);
        x.uses(0, 0);
        x.makes(0, 1);
        x.makes(0, 3);
        due("from(1, 0): did not run yet", -1, x.from(1, 0));
        yes("run(0)", x.run(0));
        due("from(1, 0)", 2, x.from(1, 0));
        due("from(1, 1)", 0, x.from(1, 1));
        due("from(3, 1)", 0, x.from(3, 1));
        due("from(1, 2)", -1, x.from(1, 2));
        due("from(0, 0): made by none", -1, x.from(0, 0));
        for (int number : NO_NUMBERS) {
            due("from, no thing", -1, x.from(number, 0));
            due("from, no such k", -1, x.from(1, number));
        }
        due("from(4, 0)", -1, x.from(4, 0));
        set(x, 1, 100);
        due("from(1, 0): another value", -1, x.from(1, 0));
        due("from(3, 0): that one still", 2, x.from(3, 0));
        set(x, 0, 50);
        due("from(3, 0): stale, but as it was made", 2, x.from(3, 0));
    }

    private static void fromAfterMore() {
        VersionJoins x = with(1, 2, 1);
        x.step(0);
        x.uses(0, 0);
        x.makes(0, 1);
        yes("run(0)", x.run(0));
        x.thing(8);
        yes("uses(0, 3)", x.uses(0, 3));
        due("from(1, 0)", 0, x.from(1, 0));
        due("from(1, 1): not used in the last run", -1, x.from(1, 1));
        yes("makes(0, 2)", x.makes(0, 2));
        due("from(2, 0): not made in the last run", -1, x.from(2, 0));
        yes("run(0)", x.run(0));
        due("from(1, 1)", 3, x.from(1, 1));
        due("from(2, 0)", 0, x.from(2, 0));
    }

    private static void runs() {
        VersionJoins x = with(1, 2, 3);
        x.step(0);
        x.step(0);
        for (int number : NO_NUMBERS) {
            no("run, no step", x.run(number));
        }
        no("run(2)", x.run(2));
        x.uses(1, 0);
        x.makes(1, 1);
        x.uses(0, 1);
        x.makes(0, 2);
        set(x, 0, 5);
        yes("run(0): the one above first", x.run(0));
        due("value(0, 1)", 5, x.value(0, 1));
        due("value(0, 2)", 5, x.value(0, 2));
        no("run(1): it has run", x.run(1));
        no("run(0)", x.run(0));
        set(x, 2, 99);
        no("run(1): the one below is of no concern", x.run(1));
        due("value(0, 2)", 99, x.value(0, 2));
        yes("run(0): made one was another", x.run(0));
        due("value(0, 2)", 5, x.value(0, 2));
    }

    private static void runsOfKinds() {
        long[][] inputs = {
            {}, {-3}, {-3, -9}, {4, 4, 6, 4}, {Long.MAX_VALUE, 1, Long.MIN_VALUE, Long.MIN_VALUE},
            {-8, -7, -6, -5, -4, -3, -2, -1}};
        long[][] want = {
            {0, 0, 0, 0}, {-3, -3, -3, 1}, {-12, -3, -3 ^ -9, 2}, {18, 6, 4 ^ 6, 2},
            {Long.MIN_VALUE, Long.MAX_VALUE, Long.MAX_VALUE ^ 1, 3}, {-36, -1, 0, 8}};
        for (int row = 0; row < inputs.length; row++) {
            for (int kind = 0; kind < 4; kind++) {
                VersionJoins x = with(inputs[row]);
                int target = x.thing(123);
                x.step(kind);
                x.makes(0, target);
                for (int i = 0; i < inputs[row].length; i++) {
                    yes("uses", x.uses(0, i));
                }
                yes("run(0)", x.run(0));
                due("value of kind " + kind + ", row " + row, want[row][kind], x.value(0, target));
            }
        }
    }

    private static void runsThatAreSpared() {
        VersionJoins x = with(1, 2, 3);
        x.step(1);
        x.step(0);
        x.uses(0, 0);
        x.makes(0, 1);
        x.uses(1, 1);
        x.makes(1, 2);
        yes("run(1)", x.run(1));
        set(x, 1, 50);
        yes("stale(1)", x.stale(1));
        no("run(1): made again, so it is not stale any more", x.run(1));
        due("value(0, 1)", 1, x.value(0, 1));
        no("stale(0)", x.stale(0));
        no("stale(1)", x.stale(1));
    }

    private static void runsOfAllSteps() {
        VersionJoins x = with(1, 2, 3, 4, 5, 6, 7, 8, 9, 10, 11, 12, 13);
        for (int i = 0; i < 12; i++) {
            x.step(0);
        }
        for (int i = 0; i < 12; i++) {
            // The steps stand in a row against their numbers, so that the last thing is at the end.
            yes("uses", x.uses(11 - i, i));
            yes("makes", x.makes(11 - i, i + 1));
        }
        no("uses(11, 12): through all", x.uses(11, 12));
        yes("run(0)", x.run(0));
        due("value(0, 12)", 1, x.value(0, 12));
        set(x, 0, 6);
        yes("stale(0)", x.stale(0));
        yes("run(0)", x.run(0));
        due("value(0, 12)", 6, x.value(0, 12));
        for (int i = 0; i < 12; i++) {
            no("stale", x.stale(i));
        }
    }

    private static void values() {
        VersionJoins x = with(5, -6);
        x.branch();
        due("value(0, 0)", 5, x.value(0, 0));
        due("value(1, 1)", -6, x.value(1, 1));
        for (int number : NO_NUMBERS) {
            due("value, no branch", 0, x.value(number, 0));
            due("value, no thing", 0, x.value(0, number));
        }
        due("value(2, 0)", 0, x.value(2, 0));
        due("value(0, 2)", 0, x.value(0, 2));
        due("value(6, 0)", 0, x.value(6, 0));
        set(x, 0, 7);
        due("value(0, 0)", 7, x.value(0, 0));
        due("value(1, 0)", 5, x.value(1, 0));
    }

    private static long next(long x) {
        return x * 6364136223846793005L + 1442695040888963407L;
    }

    private static void plays() {
        for (int number : NO_NUMBERS) {
            VersionJoins x = with(1000, 2000);
            due("play, another number of turns", 0, x.play(1, number));
            due("value(0, 0)", 1000, x.value(0, 0));
        }
        VersionJoins x = with(1000, 2000, 3000);
        due("play(1, 51)", 0, x.play(1, 51));
        due("play(1, 0)", 0, x.play(1, 0));
        long seed = -77;
        long[] want = {1000, 2000, 3000};
        int changes = 0;
        long turn = seed;
        for (int i = 0; i < 50; i++) {
            turn = next(turn);
            int thing = (int) ((turn >>> 33) % 3);
            long v = (turn >>> 20) & 255;
            changes += want[thing] == v ? 0 : 1;
            want[thing] = v;
        }
        for (int i = 0; i < 40; i++) {
            due("session()", i, x.session());
        }
        x.branch();
        due("play(-77, 50)", changes, x.play(seed, 50));
        for (int i = 0; i < 3; i++) {
            due("value in branch 0", want[i], x.value(0, i));
            due("value in branch 1", (i + 1) * 1000L, x.value(1, i));
        }
        due("session()", -1, x.session());
        VersionJoins one = with((next(5) >>> 20) & 255);
        due("play(5, 1): the same value is no change", 0, one.play(5, 1));
    }

    private static void playsWithSteps() {
        for (long seed = 1; seed < 30; seed++) {
            long turn = next(seed);
            VersionJoins x = with(1000, 1000, 1000, 1000);
            x.step(0);
            x.step(1);
            x.uses(0, 2);
            x.makes(0, 3);
            x.uses(1, 0);
            x.makes(1, 1);
            x.makes(1, 2);
            int thing = (int) ((turn >>> 33) % 4);
            long v = (turn >>> 20) & 255;
            long first = thing == 0 ? v : 1000;
            int changes = 1;
            if (turn < 0) {
                changes = thing == 0 ? 4 : 2;
            }
            due("play(" + seed + ", 1)", changes, x.play(seed, 1));
            for (int i = 0; i < 4; i++) {
                long want = turn < 0 ? first : i == thing ? v : 1000;
                due("value after play(" + seed + ", 1)", want, x.value(0, i));
            }
            due("stale(0)", turn < 0 ? 0 : 1, x.stale(0) ? 1 : 0);
        }
    }

    /** With this seed x is 0 in the first turn: that is not below 0. */
    private static void playsAtZero() {
        long inverse = 1;
        for (int i = 0; i < 6; i++) {
            inverse *= 2 - 6364136223846793005L * inverse;
        }
        long seed = -1442695040888963407L * inverse;
        due("x of the first turn", 0, next(seed));
        VersionJoins x = with(7, 8);
        x.step(0);
        due("play", 1, x.play(seed, 1));
        due("value(0, 0)", 0, x.value(0, 0));
        yes("stale(0): no step ran", x.stale(0));
    }

    private static void playsWithoutThings() {
        VersionJoins x = new VersionJoins();
        x.step(0);
        due("play(1, 50)", 0, x.play(1, 50));
        yes("stale(0): no turns without things", x.stale(0));
    }
}
