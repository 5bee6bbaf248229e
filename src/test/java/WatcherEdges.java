/** The edges of watchers: 'Watchers', and promises 13 to 15. */
final class WatcherEdges {
    private static final Class<IndexOutOfBoundsException> NO_SUCH = IndexOutOfBoundsException.class;
    private static final Class<IllegalArgumentException> OUT = IllegalArgumentException.class;
    private static final Class<IllegalStateException> STATE = IllegalStateException.class;
    private static final int NONE = RelayStakes.NONE;

    private WatcherEdges() {
    }

    static void all(Edges edges) {
        edges.under("Watchers");
        turns(edges);
        proofs(edges);
        waking(edges);
        proving(edges);
        edges.under("Promise 15: watcher");
        edges.of("Returns the watcher of this tick", WatcherEdges::watcherOfThisTick);
        edges.of("NONE without.", WatcherEdges::withoutAWatcher);
    }

    private static void turns(Edges edges) {
        edges.of("the one whose place among them, from 0, is the tick modulo how many there are", WatcherEdges::theTickModulo);
        edges.of("of those, by numbers", WatcherEdges::byNumbers);
        edges.of("one of the nodes that are JOINED as it begins is the watcher", WatcherEdges::joinedAsItBegins);
        edges.of("none without any", WatcherEdges::noneWithoutAny);
        edges.of("as in the tick 0", WatcherEdges::noneInTheTick0);
        edges.of("nodes that come, join or leave in a tick count for the next one", WatcherEdges::countForTheNext);
        edges.of("It is awake, if it wakes in that tick", WatcherEdges::awakeInThatTick);
        edges.of("which is between the tick ahead and this one's passing", WatcherEdges::betweenTwoPassings);
    }

    private static void proofs(Edges edges) {
        edges.of("A turn in which it was not awake can be proven", WatcherEdges::onlyATurnSlept);
        edges.of("by another node", WatcherEdges::byAnotherNode);
        edges.of("awake as the watcher of the next tick that had one", WatcherEdges::awakeInTheNext);
        edges.of("the next tick that had one", WatcherEdges::overTicksWithoutAWatcher);
        edges.of("when that has passed, too", WatcherEdges::whenThatHasPassed);
        edges.of("one of the latest 10 ticks that have passed", WatcherEdges::theLatestTen);
        edges.of("10 of the sleeper's stake, as far as there is so much, go to the purse of the prover", WatcherEdges::tenOfTheStake);
        edges.of("the sleeper has 10 less trust, at least 0", WatcherEdges::tenLessTrust);
        edges.of("Each turn is proven once.", WatcherEdges::provenOnce);
    }

    private static void waking(Edges edges) {
        edges.under("Promise 13: wake");
        edges.of("Lets a node wake.", WatcherEdges::awakeInThatTick);
        edges.of("Returns whether it is the watcher of this tick.", WatcherEdges::whetherTheWatcher);
        edges.of("Throws `IndexOutOfBoundsException` if there is no such node", WatcherEdges::wakeWithoutNode);
    }

    private static void proving(Edges edges) {
        edges.under("Promise 14: prove");
        edges.of("Proves that the watcher of a tick slept.", WatcherEdges::proves);
        edges.of("`tick`: 0 to 9999", WatcherEdges::tickToProve);
        edges.of("Returns what the prover has by that.", WatcherEdges::whatTheProverHas);
        edges.of("Throws `IndexOutOfBoundsException` if there is no such node", WatcherEdges::proveWithoutNode);
        edges.of("Throws `IllegalArgumentException` if tick is out of range", WatcherEdges::tickOutOfRange);
        edges.of("if it has not passed", WatcherEdges::notPassed);
        edges.of("or was ahead of the latest 10", WatcherEdges::theLatestTen);
        edges.of("had no watcher", WatcherEdges::hadNoWatcher);
        edges.of("or that one was awake", WatcherEdges::onlyATurnSlept);
        edges.of("or is the prover", WatcherEdges::byAnotherNode);
        edges.of("the prover was not awake as told", WatcherEdges::awakeInTheNext);
        edges.of("or it was proven", WatcherEdges::provenOnce);
    }

    // ---- networks

    /** Three nodes with a purse of 100 and a stake of 20, in the tick 0; in the tick t the watcher is t modulo 3. */
    private static RelayStakes three(String turns) {
        return Nets.ticks(Nets.nodes(3), turns);
    }

    private static void refuses(Due due, String call, RelayStakes x, int prover, int tick) {
        due.same(call + ": prove(" + prover + ", " + tick + ")", Answer.of(() -> x.prove(prover, tick)), "throws.IllegalStateException");
    }

    // ---- turns

    private static void theTickModulo(Due due) {
        for (int count = 1; count <= 12; count++) {
            RelayStakes x = Nets.nodes(count);
            for (int tick = 1; tick <= 2 * count + 1; tick++) {
                x.pass(1);
                due.is("watcher() of " + count + " in the tick " + tick, x.watcher(), tick % count);
            }
        }
        for (int tick : new int[] {29, 30, 31, 4999, 5000}) {
            due.is("watcher() of 7 in the tick " + tick, Nets.pass(Nets.nodes(7), tick).watcher(), tick % 7);
        }
    }

    private static void byNumbers(Due due) {
        RelayStakes x = Nets.nodes(12);
        for (int node = 0; node < 12; node += 2) {
            x.leave(node);
        }
        for (int tick = 1; tick <= 13; tick++) {
            x.pass(1);
            due.is("watcher() of 1, 3, 5, 7, 9, 11 in the tick " + tick, x.watcher(), 2 * (tick % 6) + 1);
        }
        x.leave(11);
        x.leave(1);
        x.join(6, 0);
        int[] joined = {3, 5, 6, 7, 9};
        for (int tick = 14; tick < 25; tick++) {
            x.pass(1);
            due.is("watcher() of 3, 5, 6, 7, 9 in the tick " + tick, x.watcher(), joined[tick % 5]);
        }
    }

    private static void joinedAsItBegins(Due due) {
        RelayStakes x = Nets.nodes(2);
        x.leave(0);
        for (int tick = 1; tick <= 16; tick++) {
            x.pass(1);
            due.is("watcher() in the tick " + tick + ", 0 not JOINED", x.watcher(), 1);
        }
        x.join(0, 1);
        x.pass(2);
        due.is("watcher() in the tick 18, 0 joined again", x.watcher(), 0);
        x.leave(0);
        due.is("watcher() in the tick 18, 0 LEAVING", x.watcher(), 0);
        x.pass(2);
        due.is("watcher() in the tick 20, 0 LEAVING", x.watcher(), 1);
        RelayStakes last = Nets.pass(Nets.leaving(), 14);
        last.join(0, 0);
        last.leave(1);
        last.pass(1);
        due.is("watcher() in the tick 15, 0 joined in the last one", last.watcher(), 0);
    }

    private static void noneWithoutAny(Due due) {
        RelayStakes x = new RelayStakes();
        for (int tick = 0; tick < 3; tick++) {
            due.is("watcher() without nodes, in the tick " + tick, x.watcher(), NONE);
            x.pass(1);
        }
        x.node(1, 0, 0);
        due.is("watcher() as one comes", x.watcher(), NONE);
        x.pass(1);
        due.is("watcher() with one", x.watcher(), 0);
        x.leave(0);
        due.is("watcher() as it leaves", x.watcher(), 0);
        for (int behind = 1; behind <= 16; behind++) {
            x.pass(1);
            due.is("watcher() without any that is JOINED, " + behind + " behind", x.watcher(), NONE);
        }
        x.join(0, 1);
        due.is("watcher() as it joins", x.watcher(), NONE);
        x.pass(1);
        due.is("watcher() with one again", x.watcher(), 0);
    }

    private static void noneInTheTick0(Due due) {
        for (int count : new int[] {0, 1, 2, 12}) {
            RelayStakes x = Nets.nodes(count);
            due.is("watcher() of " + count + " in the tick 0", x.watcher(), NONE);
            if (count > 0) {
                due.is("wake(0) of " + count + " in the tick 0", x.wake(0), false);
                x.pass(1);
                due.is("watcher() of " + count + " in the tick 1", x.watcher(), 1 % count);
            }
        }
        RelayStakes y = three(".ww");
        refuses(due, "the tick 0 had no watcher", y, 1, 0);
        refuses(due, "the tick 0 had no watcher", y, 2, 0);
    }

    private static void countForTheNext(Due due) {
        RelayStakes x = Nets.pass(Nets.nodes(2), 2);
        due.is("watcher() of 2 in the tick 2", x.watcher(), 0);
        x.node(0, 0, 0);
        due.is("watcher() in the tick 2, as a third came", x.watcher(), 0);
        due.is("wake(2) in the tick 2, as it came", x.wake(2), false);
        x.pass(1);
        due.is("watcher() of 3 in the tick 3", x.watcher(), 0);
        x.leave(0);
        due.is("watcher() in the tick 3, as it left", x.watcher(), 0);
        due.is("wake(0) in the tick 3, as it left", x.wake(0), true);
        x.pass(3);
        due.is("watcher() of 1, 2 in the tick 6", x.watcher(), 1);
        x.join(0, 0);
        due.is("watcher() in the tick 6, as 0 joined", x.watcher(), 1);
        due.is("wake(0) in the tick 6, as it joined", x.wake(0), false);
        x.pass(1);
        due.is("watcher() of 3 in the tick 7", x.watcher(), 1);
        x.leave(1);
        due.is("watcher() in the tick 7, as it left", x.watcher(), 1);
        x.join(1, 0);
        x.pass(1);
        due.is("watcher() of 3 in the tick 8, as one left and joined again", x.watcher(), 2);
        x.leave(0);
        x.leave(1);
        x.pass(1);
        due.is("watcher() of 2 in the tick 9", x.watcher(), 2);
        x.join(0, 0);
        x.leave(0);
        x.pass(1);
        due.is("watcher() of 2 in the tick 10, as one joined and left again", x.watcher(), 2);
    }

    /** In the tick 4: the watcher 2 of the tick 2 slept, or not; the watcher 0 of the tick 3 was awake. */
    private static String provenIfWoken(int node, int tick) {
        RelayStakes x = Nets.nodes(3);
        for (int now = 0; now < 4; now++) {
            if (now == tick) {
                x.wake(node);
            }
            if (now == 3) {
                x.wake(0);
            }
            x.pass(1);
        }
        return Answer.of(() -> x.prove(0, 2));
    }

    private static void awakeInThatTick(Due due) {
        String refused = "throws.IllegalStateException";
        due.same("prove(0, 2), 2 not woken", provenIfWoken(2, 9), "10");
        due.same("prove(0, 2), 2 woken in the tick 1", provenIfWoken(2, 1), "10");
        due.same("prove(0, 2), 2 woken in the tick 2", provenIfWoken(2, 2), refused);
        due.same("prove(0, 2), 2 woken in the tick 3", provenIfWoken(2, 3), "10");
        due.same("prove(0, 2), 1 woken in the tick 2", provenIfWoken(1, 2), "10");
        due.same("prove(0, 2), 0 woken in the tick 2", provenIfWoken(0, 2), "10");
        RelayStakes again = three(".ww");
        again.wake(0);
        again.wake(0);
        Nets.ticks(again, ".w");
        refuses(due, "0 woken twice in its turn", again, 1, 3);
    }

    /** In the tick 4: the watcher 2 of the tick 2 slept; 0, the watcher of the tick 3, was woken in the tick told. */
    private static String provenByOneWokenIn(int tick) {
        RelayStakes x = Nets.nodes(3);
        for (int now = 0; now < 4; now++) {
            if (now == tick) {
                x.wake(0);
            }
            x.pass(1);
        }
        if (tick == 4) {
            x.wake(0);
        }
        return Answer.of(() -> x.prove(0, 2));
    }

    private static void betweenTwoPassings(Due due) {
        for (int tick = 0; tick <= 5; tick++) {
            String want = tick == 3 ? "10" : "throws.IllegalStateException";
            due.same("prove(0, 2), 0 woken in the tick " + tick, provenByOneWokenIn(tick), want);
        }
        RelayStakes once = three("..");
        once.pass(1);
        due.is("watcher(), just begun", once.watcher(), 0);
        due.is("wake(0), as its tick has just begun", once.wake(0), true);
        once.pass(1);
        due.is("wake(0), as its tick has just passed", once.wake(0), false);
        due.is("prove(0, 2)", once.prove(0, 2), 10);
    }

    // ---- proofs

    private static void onlyATurnSlept(Due due) {
        RelayStakes slept = three("..ww");
        due.is("prove(2, 1) of one who slept", slept.prove(2, 1), 10);
        RelayStakes awake = three(".www");
        refuses(due, "of one who was awake", awake, 2, 1);
        refuses(due, "of one who was awake", awake, 0, 2);
        due.is("nodeIs(1, 1) of one who was awake", awake.nodeIs(1, 1), 20);
        due.is("nodeIs(1, 2) of one who was awake", awake.nodeIs(1, 2), 50);
        due.fails("prove(2, 1) of one who was awake", STATE, () -> three(".www"), x -> x.prove(2, 1));
    }

    private static void byAnotherNode(Due due) {
        due.fails("prove(0, 1), alone, by the sleeper", STATE, () -> Nets.ticks(Nets.nodes(1), "..w."), x -> x.prove(0, 1));
        due.fails("prove(1, 1) of three, by the sleeper", STATE, () -> three("..ww"), x -> x.prove(1, 1));
        due.answers("prove(2, 1) of three, by another", 10, () -> three("..ww"), x -> x.prove(2, 1));
        due.answers("prove(0, 1) of two, by another", 10, () -> Nets.ticks(Nets.nodes(2), "..w"), x -> x.prove(0, 1));
    }

    private static void awakeInTheNext(Due due) {
        due.answers("prove(2, 1), awake in the next tick", 10, () -> three("..w"), x -> x.prove(2, 1));
        due.fails("prove(2, 1), asleep in the next tick", STATE, () -> three("..."), x -> x.prove(2, 1));
        due.fails("prove(0, 1), awake in the one behind the next", STATE, () -> three("..ww"), x -> x.prove(0, 1));
        due.fails("prove(0, 1), the next one asleep", STATE, () -> three("...w"), x -> x.prove(0, 1));
        due.fails("prove(0, 4), awake in the tick ahead", STATE, () -> three("...w.w."), x -> x.prove(0, 4));
        due.answers("prove(2, 4), awake in the next tick", 10, () -> three("...w.w."), x -> x.prove(2, 4));
        due.fails("prove(2, 1), awake in a later turn alone", STATE, () -> three(".....w"), x -> x.prove(2, 1));
    }

    /** Two nodes; the watcher 1 of the tick 1 slept, and in the ticks from 2 on, as many as told, there was none. */
    private static RelayStakes gap(int ticks) {
        RelayStakes x = Nets.ticks(Nets.nodes(2), ".");
        x.leave(0);
        x.leave(1);
        x.pass(ticks);
        x.join(0, 0);
        return x;
    }

    private static void overTicksWithoutAWatcher(Due due) {
        for (int ticks = 1; ticks <= 9; ticks++) {
            RelayStakes x = gap(ticks);
            due.is("watcher() behind " + ticks + " without, in the last of them", x.watcher(), NONE);
            refuses(due, "behind " + ticks + " without, in the last of them", x, 0, 1);
            x.pass(1);
            due.is("watcher() behind " + ticks + " without", x.watcher(), 0);
            x.wake(0);
            refuses(due, "behind " + ticks + " without, not yet passed", x, 0, 1);
            x.pass(1);
            if (ticks + 3 <= 11) {
                due.is("prove(0, 1) behind " + ticks + " without", x.prove(0, 1), 10);
            } else {
                refuses(due, "behind " + ticks + " without, too late", x, 0, 1);
            }
        }
        RelayStakes asleep = gap(2);
        asleep.pass(2);
        refuses(due, "the next one asleep", asleep, 0, 1);
        due.is("watcher() in the tick 5", asleep.watcher(), 0);
        asleep.wake(0);
        asleep.pass(1);
        refuses(due, "awake in the one behind the next alone", asleep, 0, 1);
    }

    private static void whenThatHasPassed(Due due) {
        RelayStakes x = three("..");
        x.wake(2);
        due.fails("prove(2, 1) in the tick 2, in which it is awake", STATE, () -> {
            RelayStakes y = three("..");
            y.wake(2);
            return y;
        }, y -> y.prove(2, 1));
        refuses(due, "in the tick 2", x, 2, 1);
        x.pass(1);
        due.is("prove(2, 1) in the tick 3", x.prove(2, 1), 10);
        due.answers("prove(2, 1) in the tick 4", 10, () -> three("..w."), y -> y.prove(2, 1));
    }

    private static void theLatestTen(Due due) {
        for (int slept : new int[] {1, 2, 3, 11, 12, 4000}) {
            for (int behind = 2; behind <= 13; behind++) {
                RelayStakes x = Nets.ticks(Nets.pass(Nets.nodes(3), slept), ".w");
                Nets.pass(x, behind - 2);
                int prover = (slept + 1) % 3;
                String call = "prove(" + prover + ", " + slept + ") in the tick " + (slept + behind);
                due.same(call, Answer.of(() -> x.prove(prover, slept)), behind <= 10 ? "10" : "throws.IllegalStateException");
            }
        }
        due.fails("prove(2, 1) in the tick 12", STATE, () -> Nets.pass(three("..w"), 9), x -> x.prove(2, 1));
    }

    /** Two nodes, 1 with this stake; it slept in the tick 1, and 0 was awake in the tick 2. */
    private static RelayStakes withStake(int stake) {
        RelayStakes x = new RelayStakes();
        x.node(3, 8, 0);
        x.node(5, stake, 0);
        return Nets.ticks(x, "..w");
    }

    private static void tenOfTheStake(Due due) {
        for (int stake : new int[] {0, 1, 9, 10, 11, 20, 999}) {
            RelayStakes x = withStake(stake);
            int had = Math.min(10, stake);
            due.is("prove(0, 1), a stake of " + stake, x.prove(0, 1), had);
            due.is("nodeIs(1, 1), the sleeper's stake of " + stake, x.nodeIs(1, 1), stake - had);
            due.is("nodeIs(1, 0), the sleeper's purse", x.nodeIs(1, 0), 5);
            due.is("nodeIs(0, 0), the prover's purse", x.nodeIs(0, 0), 3 + had);
            due.is("nodeIs(0, 1), the prover's stake", x.nodeIs(0, 1), 8);
            due.is("nodeIs(0, 4), which is not for relaying", x.nodeIs(0, 4), 0);
            due.is("money()", x.money(), 16 + stake);
        }
    }

    /** 0 sends over 1, and is the watcher of even ticks; 1 has a trust of 50, and up, and 20 less for each that it loses. */
    private static RelayStakes trusted(int up, int down) {
        RelayStakes x = new RelayStakes();
        x.node(0, 0, 0);
        x.node(0, 0, 0);
        x.node(0, 0, 0);
        x.leave(2);
        Nets.link(x, 0, 1, 1, 2);
        for (int i = 0; i < up; i++) {
            x.send(0, 2);
        }
        x.pass(2);
        x.lose(1, down);
        for (int i = 0; i < down; i++) {
            x.send(0, 2);
        }
        return Nets.ticks(x, "..w");
    }

    private static void tenLessTrust(Due due) {
        int[][] upDownTrust = {{0, 0, 50}, {50, 0, 100}, {19, 3, 9}, {20, 3, 10}, {21, 3, 11}, {0, 3, 0}, {11, 3, 1}};
        for (int[] one : upDownTrust) {
            RelayStakes x = trusted(one[0], one[1]);
            due.is("nodeIs(1, 2) ahead of it", x.nodeIs(1, 2), one[2]);
            due.is("prove(0, 3), without a stake", x.prove(0, 3), 0);
            due.is("nodeIs(1, 2) from " + one[2], x.nodeIs(1, 2), Math.max(0, one[2] - 10));
            due.is("nodeIs(0, 2), the prover", x.nodeIs(0, 2), 50);
        }
    }

    private static void provenOnce(Due due) {
        due.fails("prove(2, 1) anew", STATE, () -> {
            RelayStakes x = three("..w");
            x.prove(2, 1);
            return x;
        }, x -> x.prove(2, 1));
        due.fails("prove(0, 2) anew, with the tick ahead of it slept, too", STATE, () -> {
            RelayStakes x = three("...w");
            x.prove(0, 2);
            return x;
        }, x -> x.prove(0, 2));
        RelayStakes x = new RelayStakes();
        x.node(0, 999, 0);
        x.node(0, 999, 0);
        for (int tick = 0; tick < 36; tick += 2) {
            Nets.ticks(x, "w.");
            int slept = tick - 1;
            if (slept > 0) {
                due.is("prove(0, " + slept + ")", x.prove(0, slept), 10);
                refuses(due, "anew", x, 0, slept);
                refuses(due, "another one, two turns behind it", x, 0, slept - 2 > 0 ? slept - 2 : slept);
            }
        }
        due.is("nodeIs(1, 1) after 17", x.nodeIs(1, 1), 829);
        due.is("nodeIs(0, 0) after 17", x.nodeIs(0, 0), 170);
        RelayStakes y = three("..w..w");
        due.is("prove(2, 1)", y.prove(2, 1), 10);
        due.is("prove(2, 4), another turn of the same", y.prove(2, 4), 10);
        due.is("nodeIs(1, 1), twice proven", y.nodeIs(1, 1), 0);
        refuses(due, "anew", y, 2, 1);
    }

    // ---- promises 13 to 15

    private static void whetherTheWatcher(Due due) {
        RelayStakes x = Nets.nodes(3);
        for (int tick = 0; tick <= 7; tick++) {
            for (int node = 0; node < 3; node++) {
                boolean is = tick > 0 && node == tick % 3;
                due.is("wake(" + node + ") in the tick " + tick, x.wake(node), is);
                due.is("wake(" + node + ") in the tick " + tick + ", anew", x.wake(node), is);
            }
            x.pass(1);
        }
        RelayStakes none = Nets.leaving();
        none.leave(1);
        none.pass(1);
        due.is("wake(0) without a watcher", none.wake(0), false);
        due.is("wake(1) without a watcher", none.wake(1), false);
    }

    private static void wakeWithoutNode(Due due) {
        due.range("wake(node) in the tick 0", 0, 2, NO_SUCH, () -> three(""), (x, node) -> Answer.bit(x.wake(node)));
        due.range("wake(node) in the tick 2", 0, 2, NO_SUCH, () -> three(".."), (x, node) -> Answer.bit(x.wake(node)));
        due.fails("wake(0) without nodes", NO_SUCH, RelayStakes::new, x -> Answer.bit(x.wake(0)));
        due.fails("wake(-1) without nodes", NO_SUCH, RelayStakes::new, x -> Answer.bit(x.wake(-1)));
    }

    private static void proves(Due due) {
        RelayStakes x = three("..w");
        x.prove(2, 1);
        int[] purses = {100, 100, 110};
        int[] stakes = {20, 10, 20};
        int[] trust = {50, 40, 50};
        for (int node = 0; node < 3; node++) {
            due.is("nodeIs(" + node + ", 0)", x.nodeIs(node, 0), purses[node]);
            due.is("nodeIs(" + node + ", 1)", x.nodeIs(node, 1), stakes[node]);
            due.is("nodeIs(" + node + ", 2)", x.nodeIs(node, 2), trust[node]);
            due.is("nodeIs(" + node + ", 3)", x.nodeIs(node, 3), RelayStakes.JOINED);
        }
        due.is("money()", x.money(), 360);
        due.is("watcher()", x.watcher(), 0);
    }

    private static void tickToProve(Due due) {
        for (int tick : new int[] {0, 1, 9998, 9999}) {
            due.fails("prove(0, " + tick + "), in range", STATE, () -> three(""), x -> x.prove(0, tick));
        }
        for (int tick : new int[] {-1, 10000, Integer.MIN_VALUE, Integer.MAX_VALUE}) {
            due.fails("prove(0, " + tick + ")", OUT, () -> three(""), x -> x.prove(0, tick));
            due.fails("prove(0, " + tick + ") in the tick 20", OUT, () -> Nets.pass(three(""), 20), x -> x.prove(0, tick));
        }
    }

    private static void whatTheProverHas(Due due) {
        for (int stake : new int[] {0, 1, 9, 10, 11, 999}) {
            RelayStakes x = withStake(stake);
            int before = x.nodeIs(0, 0);
            int had = x.prove(0, 1);
            due.is("prove(0, 1), a stake of " + stake, had, Math.min(10, stake));
            due.is("nodeIs(0, 0), a stake of " + stake, x.nodeIs(0, 0), before + had);
        }
    }

    private static void proveWithoutNode(Due due) {
        for (int node : new int[] {-1, 3, Integer.MIN_VALUE, Integer.MAX_VALUE}) {
            due.fails("prove(" + node + ", 1)", NO_SUCH, () -> three("..w"), x -> x.prove(node, 1));
            due.fails("prove(" + node + ", 10000)", NO_SUCH, () -> three("..w"), x -> x.prove(node, 10000));
        }
        due.answers("prove(2, 1)", 10, () -> three("..w"), x -> x.prove(2, 1));
        due.answers("prove(0, 2)", 10, () -> three("...w"), x -> x.prove(0, 2));
    }

    private static void tickOutOfRange(Due due) {
        due.fails("prove(2, -1)", OUT, () -> three("..w"), x -> x.prove(2, -1));
        due.fails("prove(2, 0)", STATE, () -> three("..w"), x -> x.prove(2, 0));
        due.fails("prove(2, 9999)", STATE, () -> three("..w"), x -> x.prove(2, 9999));
        due.fails("prove(2, 10000)", OUT, () -> three("..w"), x -> x.prove(2, 10000));
    }

    private static void notPassed(Due due) {
        for (int tick = 3; tick <= 5; tick++) {
            int told = tick;
            for (int node = 0; node < 3; node++) {
                int prover = node;
                due.fails("prove(" + node + ", " + tick + ") in the tick 3", STATE, () -> three("..w"), x -> x.prove(prover, told));
            }
        }
        due.answers("prove(2, 1) in the tick 3", 10, () -> three("..w"), x -> x.prove(2, 1));
        RelayStakes x = three("...w");
        due.is("prove(0, 2) in the tick 4", x.prove(0, 2), 10);
        refuses(due, "this tick, in the tick 4", x, 2, 4);
        refuses(due, "the next tick, in the tick 4", x, 0, 5);
    }

    private static void hadNoWatcher(Due due) {
        refuses(due, "the tick 0", three(".w"), 1, 0);
        RelayStakes x = gap(3);
        x.pass(1);
        x.wake(0);
        x.pass(1);
        for (int tick = 2; tick <= 4; tick++) {
            refuses(due, "a tick without a watcher", x, 0, tick);
        }
        due.is("prove(0, 1), the tick ahead of them", x.prove(0, 1), 10);
    }

    private static void watcherOfThisTick(Due due) {
        RelayStakes x = Nets.nodes(3);
        for (int tick = 1; tick <= 7; tick++) {
            x.pass(1);
            due.is("watcher() in the tick " + tick, x.watcher(), tick % 3);
            x.wake(tick % 3);
            due.is("watcher() in the tick " + tick + ", awake", x.watcher(), tick % 3);
        }
    }

    private static void withoutAWatcher(Due due) {
        due.is("watcher() of a new object", new RelayStakes().watcher(), NONE);
        due.is("watcher() in the tick 0", Nets.nodes(2).watcher(), NONE);
        due.is("watcher() in the tick 1", Nets.pass(Nets.nodes(2), 1).watcher(), 1);
        due.is("watcher() with one LEAVING", Nets.pass(Nets.leaving(), 2).watcher(), 1);
        RelayStakes x = Nets.leaving();
        x.leave(1);
        x.pass(1);
        due.is("watcher() with both LEAVING", x.watcher(), NONE);
        x.pass(14);
        due.is("watcher() with both GONE", x.watcher(), NONE);
    }
}
