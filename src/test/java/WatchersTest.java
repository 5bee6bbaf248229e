/** Promises 13 to 15: waking, proofs and turns. */
final class WatchersTest {
    private static final Due due = new Due("WatchersTest");
    private static final Class<IndexOutOfBoundsException> NO_SUCH = IndexOutOfBoundsException.class;
    private static final Class<IllegalArgumentException> OUT = IllegalArgumentException.class;
    private static final Class<IllegalStateException> STATE = IllegalStateException.class;

    public static void main(String[] args) {
        promise13Wake();
        promise13WakeAsOneLeaves();
        promise14Prove();
        promise14StakeAndTrust();
        promise14TheLatestTen();
        promise14TheNextTickWithAWatcher();
        promise14OnlyTheNextWatcher();
        promise14OneThatIsGone();
        promise14Throws();
        promise15Turns();
        promise15WhoCounts();
        due.end();
    }

    /** Three nodes with a stake of 15 each, in the tick 0. */
    private static RelayStakes three() {
        RelayStakes x = new RelayStakes();
        x.node(0, 15, 0);
        x.node(0, 15, 0);
        x.node(0, 15, 0);
        return x;
    }

    /** As many ticks pass as there are letters: in each the watcher wakes for a w, and sleeps for another letter. */
    private static RelayStakes ticks(RelayStakes x, String turns) {
        for (int i = 0; i < turns.length(); i++) {
            if (turns.charAt(i) == 'w' && x.watcher() != RelayStakes.NONE) {
                x.wake(x.watcher());
            }
            x.pass(1);
        }
        return x;
    }

    /** In the tick 4: 1 was awake, 2 slept, 0 was awake. */
    private static RelayStakes slept() {
        return ticks(three(), ".w.w");
    }

    private static void node(String when, RelayStakes x, int node, int purse, int stake, int trust) {
        due.is(when + ": nodeIs(" + node + ", 0)", x.nodeIs(node, 0), purse);
        due.is(when + ": nodeIs(" + node + ", 1)", x.nodeIs(node, 1), stake);
        due.is(when + ": nodeIs(" + node + ", 2)", x.nodeIs(node, 2), trust);
    }

    private static void promise13Wake() {
        RelayStakes x = three();
        for (int node = 0; node < 3; node++) {
            due.is("wake(" + node + ") in the tick 0", x.wake(node), false);
        }
        x.pass(1);
        due.is("wake(0) in the tick 1", x.wake(0), false);
        due.is("wake(1) in the tick 1", x.wake(1), true);
        due.is("wake(1) in the tick 1, anew", x.wake(1), true);
        due.is("wake(2) in the tick 1", x.wake(2), false);
        x.pass(1);
        due.is("wake(1) in the tick 2", x.wake(1), false);
        due.is("wake(0) in the tick 2, ahead of its turn", x.wake(0), false);
        x.pass(1);
        due.is("watcher() in the tick 3", x.watcher(), 0);
        x.pass(1);
        due.same("prove(0, 2), awake in the wrong tick", Answer.of(() -> x.prove(0, 2)), "throws.IllegalStateException");
        due.fails("wake(3)", NO_SUCH, WatchersTest::slept, y -> Answer.bit(y.wake(3)));
        due.fails("wake(-1)", NO_SUCH, WatchersTest::slept, y -> Answer.bit(y.wake(-1)));
        due.fails("wake(-1) without a watcher", NO_SUCH, WatchersTest::three, y -> Answer.bit(y.wake(-1)));
    }

    private static void promise13WakeAsOneLeaves() {
        RelayStakes x = ticks(three(), "..");
        due.is("leave(2) in its turn", x.leave(2), 17);
        due.is("watcher(), LEAVING", x.watcher(), 2);
        due.is("wake(2), LEAVING", x.wake(2), true);
        x.pass(1);
        due.is("prove(2, 1) by one that is LEAVING", x.prove(2, 1), 10);
        due.is("wake(2), no watcher any more", x.wake(2), false);
        RelayStakes y = ticks(three(), ".ww");
        y.leave(2);
        y.join(2, 0);
        due.is("watcher() of the tick 3", y.watcher(), 0);
    }

    private static void promise14Prove() {
        RelayStakes x = slept();
        due.is("prove(0, 2)", x.prove(0, 2), 10);
        node("the sleeper", x, 2, 0, 5, 40);
        node("the prover", x, 0, 10, 15, 50);
        node("another", x, 1, 0, 15, 50);
        due.is("money()", x.money(), 45);
        due.same("prove(0, 2) anew", Answer.of(() -> x.prove(0, 2)), "throws.IllegalStateException");
        node("the sleeper, once", x, 2, 0, 5, 40);
        RelayStakes y = ticks(three(), ".ww..w.");
        due.is("prove(2, 4) in the tick 7", y.prove(2, 4), 10);
        due.same("prove(1, 3), who slept too", Answer.of(() -> y.prove(1, 3)), "throws.IllegalStateException");
        due.same("prove(0, 6), not yet followed", Answer.of(() -> y.prove(1, 6)), "throws.IllegalStateException");
        due.is("wake(1) in the tick 7", y.wake(1), true);
        due.same("prove(1, 6) in the tick 7", Answer.of(() -> y.prove(1, 6)), "throws.IllegalStateException");
        y.pass(1);
        due.is("prove(1, 6) in the tick 8", y.prove(1, 6), 10);
    }

    private static void promise14StakeAndTrust() {
        RelayStakes y = new RelayStakes();
        y.node(0, 0, 0);
        y.node(0, 23, 0);
        int[] had = {10, 10, 3, 0, 0, 0};
        int[] trust = {40, 30, 20, 10, 0, 0};
        y.pass(1);
        for (int i = 0; i < had.length; i++) {
            ticks(y, ".w");
            due.is("proof " + i, y.prove(0, 2 * i + 1), had[i]);
            due.is("trust after the proof " + i, y.nodeIs(1, 2), trust[i]);
        }
        for (int i = had.length; i < 2 * had.length + 3; i++) {
            ticks(y, ".w");
            due.is("proof " + i + ", with nothing to have", y.prove(0, 2 * i + 1), 0);
        }
        node("the sleeper", y, 1, 0, 0, 0);
        node("the prover", y, 0, 23, 0, 50);
    }

    /** In the tick 1 the watcher 1 slept, in the tick 2 the watcher 2 was awake. */
    private static RelayStakes sleptInTheFirst(int tick) {
        RelayStakes x = ticks(three(), "..w");
        while (x.pass(1) < tick) {
        }
        return x;
    }

    private static void promise14TheLatestTen() {
        due.answers("prove(2, 1) in the tick 4", 10, () -> sleptInTheFirst(4), x -> x.prove(2, 1));
        due.answers("prove(2, 1) in the tick 10", 10, () -> sleptInTheFirst(10), x -> x.prove(2, 1));
        due.answers("prove(2, 1) in the tick 11", 10, () -> sleptInTheFirst(11), x -> x.prove(2, 1));
        due.fails("prove(2, 1) in the tick 12", STATE, () -> sleptInTheFirst(12), x -> x.prove(2, 1));
        due.fails("prove(2, 1) in the tick 13", STATE, () -> sleptInTheFirst(13), x -> x.prove(2, 1));
        RelayStakes late = new RelayStakes();
        late.node(0, 500, 0);
        late.node(0, 500, 0);
        while (late.pass(20) < 4980) {
        }
        ticks(late, "w.w.w.w.w.w.w.w.w.w.");
        due.is("pass to the last tick", late.watcher(), 0);
        for (int slept = 4991; slept < 4999; slept += 2) {
            int told = slept;
            due.is("prove(0, " + slept + ")", late.prove(0, slept), 10);
            due.same("prove(0, " + slept + ") anew", Answer.of(() -> late.prove(0, told)), "throws.IllegalStateException");
        }
        due.same("prove(0, 4989)", Answer.of(() -> late.prove(0, 4989)), "throws.IllegalStateException");
        due.same("prove(0, 4999), not yet followed", Answer.of(() -> late.prove(0, 4999)), "throws.IllegalStateException");
    }

    /** Two nodes: the watcher of the tick 1 slept, and in the ticks 2 to 4 there was none. */
    private static RelayStakes gap(String turns) {
        RelayStakes x = new RelayStakes();
        x.node(0, 15, 0);
        x.node(0, 15, 0);
        x.pass(1);
        x.leave(0);
        x.leave(1);
        x.pass(3);
        x.join(0, 0);
        x.join(1, 0);
        return ticks(x, turns);
    }

    private static void promise14TheNextTickWithAWatcher() {
        RelayStakes x = gap("");
        due.is("watcher() in the gap", x.watcher(), -1);
        due.fails("prove(0, 1), followed by none", STATE, () -> gap(""), y -> y.prove(0, 1));
        due.fails("prove(0, 1), followed by one who slept itself", STATE, () -> gap("..w"), y -> y.prove(0, 1));
        RelayStakes y = gap(".");
        due.is("watcher() behind the gap, in the tick 5", y.watcher(), 1);
        due.is("wake(1)", y.wake(1), true);
        y.pass(1);
        due.same("prove(1, 1), the sleeper itself is the next", Answer.of(() -> y.prove(1, 1)), "throws.IllegalStateException");
        RelayStakes z = gap("");
        z.leave(1);
        due.is("pass(1)", z.pass(1), 5);
        due.is("watcher() behind the gap, alone", z.watcher(), 0);
        due.is("wake(0)", z.wake(0), true);
        due.same("prove(0, 1) in the tick 5", Answer.of(() -> z.prove(0, 1)), "throws.IllegalStateException");
        due.is("pass(1)", z.pass(1), 6);
        due.same("prove(0, 2), had no watcher", Answer.of(() -> z.prove(0, 2)), "throws.IllegalStateException");
        due.is("prove(0, 1) over the gap", z.prove(0, 1), 10);
    }

    private static void promise14OnlyTheNextWatcher() {
        RelayStakes x = ticks(three(), "..www");
        due.same("prove(0, 1), awake in the tick 3", Answer.of(() -> x.prove(0, 1)), "throws.IllegalStateException");
        due.same("prove(1, 1), the sleeper", Answer.of(() -> x.prove(1, 1)), "throws.IllegalStateException");
        due.is("prove(2, 1), awake in the tick 2", x.prove(2, 1), 10);
        RelayStakes y = ticks(three(), "...w");
        due.same("prove(0, 1), the tick 2 slept too", Answer.of(() -> y.prove(0, 1)), "throws.IllegalStateException");
        due.same("prove(2, 1), who slept too", Answer.of(() -> y.prove(2, 1)), "throws.IllegalStateException");
        due.is("prove(0, 2)", y.prove(0, 2), 10);
        RelayStakes alone = new RelayStakes();
        alone.node(0, 15, 0);
        ticks(alone, "..w.");
        due.same("prove(0, 1), by itself", Answer.of(() -> alone.prove(0, 1)), "throws.IllegalStateException");
    }

    private static void promise14OneThatIsGone() {
        RelayStakes x = new RelayStakes();
        x.node(0, 15, 0);
        x.node(0, 15, 0);
        x.pass(1);
        x.leave(1);
        x.pass(1);
        x.wake(0);
        x.pass(1);
        due.is("prove(0, 1) of one that is LEAVING", x.prove(0, 1), 10);
        x.pass(13);
        node("one that is GONE", x, 1, 5, 0, 40);
    }

    private static void promise14Throws() {
        due.fails("prove(3, 2)", NO_SUCH, WatchersTest::slept, x -> x.prove(3, 2));
        due.fails("prove(-1, -1)", NO_SUCH, WatchersTest::slept, x -> x.prove(-1, -1));
        due.fails("prove(0, -1)", OUT, WatchersTest::slept, x -> x.prove(0, -1));
        due.fails("prove(0, 10000)", OUT, WatchersTest::slept, x -> x.prove(0, 10000));
        due.fails("prove(0, most)", OUT, WatchersTest::slept, x -> x.prove(0, Integer.MAX_VALUE));
        due.fails("prove(0, 9999), not passed", STATE, WatchersTest::slept, x -> x.prove(0, 9999));
        due.fails("prove(0, 5), not passed", STATE, WatchersTest::slept, x -> x.prove(0, 5));
        due.fails("prove(0, 4), this tick", STATE, WatchersTest::slept, x -> x.prove(0, 4));
        due.fails("prove(0, 3), followed by this tick", STATE, WatchersTest::slept, x -> x.prove(0, 3));
        due.fails("prove(1, 0), without a watcher", STATE, WatchersTest::slept, x -> x.prove(1, 0));
        due.fails("prove(2, 1), awake", STATE, WatchersTest::slept, x -> x.prove(2, 1));
        due.fails("prove(2, 2), the prover itself", STATE, WatchersTest::slept, x -> x.prove(2, 2));
        due.fails("prove(1, 2), not the next watcher", STATE, WatchersTest::slept, x -> x.prove(1, 2));
        due.fails("prove(2, 1), awake, and followed by one awake", STATE, () -> ticks(three(), ".www"), x -> x.prove(2, 1));
        due.fails("prove(0, 2), proven", STATE, WatchersTest::proven, x -> x.prove(0, 2));
    }

    private static RelayStakes proven() {
        RelayStakes x = slept();
        x.prove(0, 2);
        return x;
    }

    private static void promise15Turns() {
        RelayStakes x = three();
        due.is("watcher() in the tick 0", x.watcher(), -1);
        for (int tick = 1; tick <= 13; tick++) {
            x.pass(1);
            due.is("watcher() in the tick " + tick, x.watcher(), tick % 3);
        }
        due.is("watcher(), asked anew", x.watcher(), 1);
        RelayStakes y = three();
        y.pass(29);
        due.is("watcher() in the tick 29", y.watcher(), 2);
        RelayStakes none = new RelayStakes();
        none.pass(7);
        due.is("watcher() without nodes", none.watcher(), -1);
    }

    private static void promise15WhoCounts() {
        RelayStakes x = three();
        x.pass(4);
        due.is("watcher() in the tick 4", x.watcher(), 1);
        x.node(0, 0, 0);
        x.leave(0);
        due.is("watcher() in the tick 4, another came and one left", x.watcher(), 1);
        x.pass(1);
        due.is("watcher() in the tick 5, of 1, 2, 3", x.watcher(), 3);
        x.leave(2);
        x.pass(1);
        due.is("watcher() in the tick 6, of 1, 3", x.watcher(), 1);
        x.pass(1);
        due.is("watcher() in the tick 7, of 1, 3", x.watcher(), 3);
        x.join(0, 0);
        due.is("watcher() in the tick 7, one joined", x.watcher(), 3);
        x.pass(1);
        due.is("watcher() in the tick 8, of 0, 1, 3", x.watcher(), 3);
        x.leave(0);
        x.leave(1);
        x.leave(3);
        due.is("watcher() in the tick 8, all left", x.watcher(), 3);
        x.pass(1);
        due.is("watcher() in the tick 9, without any", x.watcher(), -1);
        RelayStakes late = new RelayStakes();
        late.pass(6);
        late.node(0, 0, 0);
        due.is("watcher() as the first one comes", late.watcher(), -1);
        due.is("wake(0) as the first one comes", late.wake(0), false);
        late.pass(1);
        due.is("watcher() in the next tick", late.watcher(), 0);
    }
}
