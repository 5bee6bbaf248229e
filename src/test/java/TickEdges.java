import java.util.function.Supplier;
import java.util.function.ToLongFunction;

/** The edges of ticks and asking, promises 16 to 19, and of what holds for each call: 'What it is' and 'Terms'. */
final class TickEdges {
    private static final Class<IndexOutOfBoundsException> NO_SUCH = IndexOutOfBoundsException.class;
    private static final Class<IllegalArgumentException> OUT = IllegalArgumentException.class;
    private static final Class<IllegalStateException> STATE = IllegalStateException.class;

    private TickEdges() {
    }

    static void all(Edges edges) {
        passing(edges);
        asking(edges);
        edges.under("What it is");
        edges.names("A relay network that is paid");
        edges.of("An object is used for at most 512 calls after it has been made", TickEdges::fiveHundredAndTwelveCalls);
        edges.under("Terms");
        edges.names("Nodes, links, messages, losses, wakings, proofs and leaves are told, ticks pass");
        edges.of("A method throws IndexOutOfBoundsException if there is no such node or message", TickEdges::noSuchNodeOrMessage);
        edges.of("IllegalArgumentException if another argument is out of range", TickEdges::anotherArgumentOutOfRange);
        edges.of("IllegalStateException as it documents", TickEdges::stateAsDocumented);
        edges.of("if several apply, the one that it lists first is thrown", TickEdges::severalApply);
        edges.of("A call that throws changes nothing.", TickEdges::changesNothing);
        edges.of("The tick is 0 at first.", TickEdges::theTickAtFirst);
        edges.under("Not promised");
        edges.names("How the state is held inside the object is free");
        edges.names("Use of one object from several threads at once");
        edges.names("Nothing is promised beyond the answers");
    }

    private static void passing(Edges edges) {
        edges.under("Promise 16: pass");
        edges.of("in each messages go on", TickEdges::messagesGoOn);
        edges.of("then the next one begins", TickEdges::thenTheNextBegins);
        edges.of("with those that are GONE by then", TickEdges::thoseThatAreGone);
        edges.of("`ticks`: 1 to 30", TickEdges::howManyTicks);
        edges.of("Returns the tick then.", TickEdges::theTickThen);
        edges.of("Throws `IllegalArgumentException` if ticks is out of range",
            due -> due.range("pass(ticks)", 1, 30, OUT, () -> Nets.nodes(2), (x, ticks) -> x.pass(ticks)));
        edges.of("Throws `IllegalStateException` if it would be above 5000", TickEdges::aboveTheLastTick);
    }

    private static void asking(Edges edges) {
        edges.under("Promise 17: nodeIs");
        edges.of("Tells of a node.", TickEdges::tellsOfEach);
        edges.of("0 its purse, 1 its stake", TickEdges::purseAndStake);
        edges.of("2 its trust", TickEdges::trust);
        edges.of("3 how it is", TickEdges::howItIs);
        edges.of("4 what it got for relaying", TickEdges::whatItGot);
        edges.of("5 how many receipts it has", TickEdges::howManyReceipts);
        edges.of("6 the tick in which it is GONE, NONE if it is not LEAVING", TickEdges::tickOfBeingGone);
        edges.of("Throws `IndexOutOfBoundsException` if there is no such node", TickEdges::nodeIsWithoutNode);
        edges.of("Throws `IllegalArgumentException` if what is out of range",
            due -> due.range("nodeIs(1, what)", 0, 6, OUT, () -> Nets.nodes(2), (x, what) -> x.nodeIs(1, what)));
        edges.under("Promise 18: paidAnew");
        edges.of("found by the receipts of all messages that are DELIVERED or LOST", TickEdges::deliveredOrLost);
        edges.of("Throws `IndexOutOfBoundsException` if there is no such node",
            due -> due.range("paidAnew(node)", 0, 1, NO_SUCH, () -> Nets.nodes(2), (x, node) -> x.paidAnew(node)));
        edges.under("Promise 19: money");
        edges.of("Returns all money: purses, stakes", TickEdges::pursesAndStakes);
        edges.of("and what is in messages that are ON_WAY", TickEdges::inMessagesOnTheWay);
    }

    // ---- promise 16

    private static void messagesGoOn(Due due) {
        for (int ticks = 1; ticks <= 4; ticks++) {
            RelayStakes at = Nets.sent();
            at.pass(ticks);
            due.is("message(0, 1) after pass(" + ticks + ")", at.message(0, 1), Math.min(3, ticks));
            due.is("nodeIs(1, 0) after pass(" + ticks + ")", at.nodeIs(1, 0), ticks < 3 ? 0 : 9);
        }
        RelayStakes two = Nets.sent();
        two.pass(1);
        two.send(0, 3);
        two.pass(1);
        due.is("message(0, 1), sent in the tick 0", two.message(0, 1), 2);
        due.is("message(1, 1), sent in the tick 1", two.message(1, 1), 1);
    }

    private static void thenTheNextBegins(Due due) {
        RelayStakes x = Nets.nodes(3);
        for (int tick = 1; tick <= 7; tick++) {
            x.pass(1);
            due.is("watcher() after pass(1) to the tick " + tick, x.watcher(), tick % 3);
        }
        for (int ticks = 1; ticks <= 30; ticks++) {
            RelayStakes y = Nets.nodes(4);
            y.pass(ticks);
            due.is("watcher() after pass(" + ticks + ")", y.watcher(), ticks % 4);
        }
        RelayStakes slept = Nets.nodes(2);
        slept.pass(3);
        slept.pass(1);
        slept.wake(0);
        slept.pass(1);
        due.is("prove(0, 3), after ticks that passed at once", slept.prove(0, 3), 10);
    }

    private static void thoseThatAreGone(Due due) {
        for (int[] passes : new int[][] {{14}, {15}, {16}, {14, 1}, {7, 8}, {1, 13}, {30}}) {
            RelayStakes x = Nets.leaving();
            int tick = 0;
            for (int ticks : passes) {
                tick = x.pass(ticks);
            }
            boolean gone = tick >= 15;
            due.is("nodeIs(0, 3) in the tick " + tick, x.nodeIs(0, 3), gone ? RelayStakes.GONE : RelayStakes.LEAVING);
            due.is("nodeIs(0, 0) in the tick " + tick, x.nodeIs(0, 0), gone ? 120 : 100);
            due.is("nodeIs(1, 3) in the tick " + tick, x.nodeIs(1, 3), RelayStakes.JOINED);
        }
        RelayStakes two = Nets.leaving();
        two.pass(1);
        two.leave(1);
        two.pass(14);
        due.is("nodeIs(0, 3), which left in the tick 0, in the tick 15", two.nodeIs(0, 3), RelayStakes.GONE);
        due.is("nodeIs(1, 3), which left in the tick 1, in the tick 15", two.nodeIs(1, 3), RelayStakes.LEAVING);
        two.pass(1);
        due.is("nodeIs(1, 3), which left in the tick 1, in the tick 16", two.nodeIs(1, 3), RelayStakes.GONE);
    }

    private static void howManyTicks(Due due) {
        due.range("pass(ticks)", 1, 30, OUT, Nets::sent, (x, ticks) -> x.pass(ticks));
        for (int ticks : new int[] {1, 2, 29, 30}) {
            due.answers("pass(" + ticks + ")", ticks, Nets::sent, x -> x.pass(ticks));
        }
    }

    private static void theTickThen(Due due) {
        RelayStakes x = new RelayStakes();
        due.is("pass(1)", x.pass(1), 1);
        due.is("pass(1) anew", x.pass(1), 2);
        due.is("pass(30)", x.pass(30), 32);
        due.same("pass(31)", Answer.of(() -> x.pass(31)), "throws.IllegalArgumentException");
        due.is("pass(29), after one that was refused", x.pass(29), 61);
    }

    private static void aboveTheLastTick(Due due) {
        int[][] tickAndTicks = {{4969, 30}, {4970, 30}, {4971, 30}, {4998, 1}, {4998, 2}, {4998, 3}, {4999, 1}, {4999, 2}, {5000, 1}, {5000, 30}};
        for (int[] one : tickAndTicks) {
            String call = "pass(" + one[1] + ") in the tick " + one[0];
            Supplier<RelayStakes> made = () -> Nets.pass(Nets.sent(), one[0]);
            int then = one[0] + one[1];
            if (then <= 5000) {
                due.answers(call, then, made, x -> x.pass(one[1]));
            } else {
                due.fails(call, STATE, made, x -> x.pass(one[1]));
            }
        }
        due.fails("pass(31) in the tick 5000", OUT, () -> Nets.pass(Nets.sent(), 5000), x -> x.pass(31));
        due.fails("pass(0) in the tick 5000", OUT, () -> Nets.pass(Nets.sent(), 5000), x -> x.pass(0));
        RelayStakes last = Nets.pass(Nets.overTwo(), 4999);
        last.send(0, 3);
        last.pass(1);
        due.same("pass(1) in the tick 5000", Answer.of(() -> last.pass(1)), "throws.IllegalStateException");
        due.is("message(0, 1), one tick ahead of the last", last.message(0, 1), 1);
        due.is("watcher() in the tick 5000", last.watcher(), 0);
    }

    // ---- promises 17 to 19

    private static void nodeIs(Due due, String when, RelayStakes x, int node, int... want) {
        for (int what = 0; what < want.length; what++) {
            due.is(when + ": nodeIs(" + node + ", " + what + ")", x.nodeIs(node, what), want[what]);
        }
    }

    private static void tellsOfEach(Due due) {
        RelayStakes x = new RelayStakes();
        for (int node = 0; node < 12; node++) {
            x.node(100 + node, 20 + node, node);
        }
        x.leave(11);
        for (int node = 0; node < 11; node++) {
            nodeIs(due, "of 12", x, node, 100 + node, 20 + node, 50, 0, 0, 0, -1);
        }
        nodeIs(due, "of 12, LEAVING", x, 11, 111, 31, 50, 1, 0, 0, 15);
        x.pass(15);
        nodeIs(due, "of 12, GONE", x, 11, 142, 0, 50, 2, 0, 0, -1);
    }

    private static void purseAndStake(Due due) {
        RelayStakes x = new RelayStakes();
        x.node(0, 999, 0);
        x.node(9999, 0, 0);
        nodeIs(due, "at first", x, 0, 0, 999);
        nodeIs(due, "at first", x, 1, 9999, 0);
        x.put(1, 9999);
        nodeIs(due, "all of the purse put", x, 1, 0, 9999);
        x.leave(1);
        x.pass(15);
        nodeIs(due, "GONE", x, 1, 9999, 0);
    }

    private static void trust(Due due) {
        RelayStakes x = Nets.line(0, 0, 0);
        x.send(0, 2);
        due.is("nodeIs(1, 2), sent", x.nodeIs(1, 2), 50);
        x.pass(1);
        due.is("nodeIs(1, 2), at it", x.nodeIs(1, 2), 50);
        x.pass(1);
        due.is("nodeIs(1, 2), delivered", x.nodeIs(1, 2), 51);
        x.leave(1);
        x.pass(15);
        due.is("nodeIs(1, 2), GONE", x.nodeIs(1, 2), 51);
    }

    private static void howItIs(Due due) {
        RelayStakes x = Nets.nodes(2);
        int[] want = {1, 1, 2, 2};
        due.is("nodeIs(0, 3) at first", x.nodeIs(0, 3), 0);
        x.leave(0);
        int[] ticks = {1, 13, 1, 1};
        for (int i = 0; i < want.length; i++) {
            x.pass(ticks[i]);
            due.is("nodeIs(0, 3), the pass " + i, x.nodeIs(0, 3), want[i]);
            due.is("nodeIs(1, 3), the pass " + i, x.nodeIs(1, 3), 0);
        }
        x.join(0, 1);
        due.is("nodeIs(0, 3), joined again", x.nodeIs(0, 3), 0);
    }

    private static void whatItGot(Due due) {
        RelayStakes x = Nets.sent();
        int[] want = {0, 0, 0, 9, 9};
        for (int tick = 0; tick < want.length; tick++) {
            due.is("nodeIs(1, 4) in the tick " + tick, x.nodeIs(1, 4), want[tick]);
            x.pass(1);
        }
        due.is("nodeIs(0, 4), the sender", x.nodeIs(0, 4), 0);
        due.is("nodeIs(3, 4), the end", x.nodeIs(3, 4), 0);
        x.put(1, 9);
        due.is("nodeIs(1, 4), when it is put", x.nodeIs(1, 4), 9);
        x.send(0, 3);
        x.lose(2, 1);
        x.pass(2);
        due.is("nodeIs(1, 4), with a receipt for one that is LOST", x.nodeIs(1, 4), 18);
        due.is("nodeIs(2, 4), who lost it", x.nodeIs(2, 4), 7);
        due.is("nodeIs(0, 4), who had of a stake", x.nodeIs(0, 4), 0);
        x.leave(1);
        x.pass(15);
        due.is("nodeIs(1, 4), GONE", x.nodeIs(1, 4), 18);
    }

    private static void howManyReceipts(Due due) {
        RelayStakes x = Nets.sent();
        x.send(0, 2);
        int[] first = {0, 2, 2, 2};
        int[] second = {0, 0, 1, 1};
        for (int tick = 0; tick < first.length; tick++) {
            due.is("nodeIs(1, 5) in the tick " + tick, x.nodeIs(1, 5), first[tick]);
            due.is("nodeIs(2, 5) in the tick " + tick, x.nodeIs(2, 5), second[tick]);
            due.is("nodeIs(0, 5), the sender", x.nodeIs(0, 5), 0);
            due.is("nodeIs(3, 5), the end", x.nodeIs(3, 5), 0);
            x.pass(1);
        }
        x.send(0, 3);
        x.lose(1, 1);
        x.pass(1);
        due.is("nodeIs(1, 5), one lost", x.nodeIs(1, 5), 2);
    }

    private static void tickOfBeingGone(Due due) {
        RelayStakes x = Nets.pass(Nets.nodes(2), 2);
        due.is("nodeIs(0, 6), JOINED", x.nodeIs(0, 6), -1);
        x.leave(0);
        due.is("nodeIs(0, 6), LEAVING", x.nodeIs(0, 6), 17);
        due.is("nodeIs(1, 6), JOINED", x.nodeIs(1, 6), -1);
        x.pass(14);
        due.is("nodeIs(0, 6) in the tick 16", x.nodeIs(0, 6), 17);
        x.pass(1);
        due.is("nodeIs(0, 6), GONE", x.nodeIs(0, 6), -1);
        x.join(0, 1);
        due.is("nodeIs(0, 6), joined again", x.nodeIs(0, 6), -1);
        x.leave(0);
        due.is("nodeIs(0, 6), LEAVING again", x.nodeIs(0, 6), 32);
        x.join(0, 0);
        due.is("nodeIs(0, 6), joined while LEAVING", x.nodeIs(0, 6), -1);
    }

    private static void nodeIsWithoutNode(Due due) {
        due.range("nodeIs(node, 0)", 0, 1, NO_SUCH, () -> Nets.nodes(2), (x, node) -> x.nodeIs(node, 0));
        due.range("nodeIs(node, 6)", 0, 11, NO_SUCH, () -> Nets.nodes(12), (x, node) -> x.nodeIs(node, 6));
        due.fails("nodeIs(0, 0), none told", NO_SUCH, RelayStakes::new, x -> x.nodeIs(0, 0));
    }

    private static void deliveredOrLost(Due due) {
        RelayStakes x = Nets.sent();
        x.send(0, 2);
        x.send(0, 3);
        int[] first = {0, 0, 18, 27};
        int[] second = {0, 0, 0, 7};
        for (int tick = 0; tick < first.length; tick++) {
            due.is("paidAnew(1) in the tick " + tick, x.paidAnew(1), first[tick]);
            due.is("paidAnew(2) in the tick " + tick, x.paidAnew(2), second[tick]);
            due.is("nodeIs(1, 4) in the tick " + tick, x.nodeIs(1, 4), first[tick]);
            due.is("nodeIs(2, 4) in the tick " + tick, x.nodeIs(2, 4), second[tick]);
            due.is("paidAnew(0), the sender", x.paidAnew(0), 0);
            due.is("paidAnew(3), the end", x.paidAnew(3), 0);
            due.is("message(0, 0) in the tick " + tick, x.message(0, 0), tick < 2 ? RelayStakes.ON_WAY : RelayStakes.LOST);
            x.lose(2, tick == 1 ? 1 : 0);
            x.pass(1);
        }
    }

    private static void pursesAndStakes(Due due) {
        due.is("money() of a new object", new RelayStakes().money(), 0);
        RelayStakes x = new RelayStakes();
        for (int node = 1; node <= 12; node++) {
            x.node(9999, 999, 50);
            due.is("money() of " + node, x.money(), node * 10998);
        }
        x.put(0, 9999);
        x.leave(1);
        due.is("money(), one put, one LEAVING", x.money(), 131976);
        x.pass(15);
        due.is("money(), one GONE", x.money(), 131976);
        Nets.ticks(x, "..w");
        due.is("money(), ticks behind", x.money(), 131976);
        RelayStakes proven = Nets.ticks(Nets.nodes(2), "..w");
        proven.prove(0, 1);
        due.is("money(), one proven", proven.money(), 240);
    }

    private static void inMessagesOnTheWay(Due due) {
        for (int lost = 0; lost <= 2; lost++) {
            RelayStakes x = Nets.overTwo();
            x.lose(lost, 1);
            for (int i = 0; i < 3; i++) {
                x.send(0, 3);
                due.is("money(), " + i + " under way", x.money(), 170);
            }
            for (int tick = 1; tick <= 4; tick++) {
                x.pass(1);
                due.is("money() in the tick " + tick + ", lost at " + lost, x.money(), 170);
            }
        }
        RelayStakes sixty = Nets.line(60, 2, 1);
        for (int i = 0; i < 60; i++) {
            sixty.send(0, 2);
        }
        due.is("money(), all of it in 60 messages", sixty.money(), 62);
        due.is("nodeIs(0, 0)", sixty.nodeIs(0, 0), 0);
        sixty.pass(1);
        due.is("money(), 60 under way", sixty.money(), 62);
        sixty.pass(1);
        due.is("money(), 60 delivered", sixty.money(), 62);
        due.is("nodeIs(1, 0)", sixty.nodeIs(1, 0), 60);
    }

    // ---- what holds for each call

    /** An object in its tick 25: node 4 is LEAVING, 5 GONE; message 0 is DELIVERED, 1 LOST, 2 ON_WAY; some slept, some were awake. */
    private static RelayStakes busy() {
        RelayStakes x = Nets.overTwo();
        x.node(100, 20, 5);
        x.node(100, 20, 5);
        x.leave(5);
        x.pass(15);
        x.send(0, 3);
        x.pass(3);
        x.send(0, 3);
        x.lose(2, 1);
        x.pass(2);
        x.leave(4);
        Nets.ticks(x, ".w.w");
        x.send(0, 3);
        x.lose(2, 3);
        x.pass(1);
        return x;
    }

    private static final class Told {
        private final String name;
        private final ToLongFunction<RelayStakes> call;

        private Told(String name, ToLongFunction<RelayStakes> call) {
            this.name = name;
            this.call = call;
        }
    }

    private static void allThrow(Due due, Class<? extends RuntimeException> want, Supplier<RelayStakes> made, Told... all) {
        for (Told one : all) {
            due.fails(one.name, want, made, one.call);
        }
    }

    private static void allAnswer(Due due, Supplier<RelayStakes> made, Told... all) {
        for (Told one : all) {
            String got = Answer.of(() -> one.call.applyAsLong(made.get()));
            due.same(one.name + " throws", String.valueOf(got.startsWith("throws.")), "false");
        }
    }

    /** Each call of one node or two, with this one in its place, and all else in order as far as it can be. */
    private static Told[] callsOf(int node) {
        String of = "(" + node;
        return new Told[] {
            new Told("link" + of + ", 1, true)", x -> Answer.bit(x.link(node, 1, true))),
            new Told("link(1, " + node + ", true)", x -> Answer.bit(x.link(1, node, true))),
            new Told("price" + of + ", 5)", x -> x.price(node, 5)),
            new Told("put" + of + ", 1)", x -> x.put(node, 1)),
            new Told("join" + of + ", 1)", x -> x.join(node, 1)),
            new Told("send" + of + ", 3)", x -> x.send(node, 3)),
            new Told("send(3, " + node + ")", x -> x.send(3, node)),
            new Told("cost" + of + ", 1)", x -> x.cost(node, 1)),
            new Told("cost(1, " + node + ")", x -> x.cost(1, node)),
            new Told("lose" + of + ", 1)", x -> x.lose(node, 1)),
            new Told("wake" + of + ")", x -> Answer.bit(x.wake(node))),
            new Told("nodeIs" + of + ", 0)", x -> x.nodeIs(node, 0)),
            new Told("paidAnew" + of + ")", x -> x.paidAnew(node))};
    }

    /** Two nodes that are linked to a third and to a fourth, and LEAVING. */
    private static RelayStakes linked() {
        RelayStakes x = Nets.link(Nets.nodes(4), 0, 1, 1, 2, 2, 3, 0, 3, 0, 2);
        x.leave(0);
        x.leave(2);
        return x;
    }

    private static void noSuchNodeOrMessage(Due due) {
        for (int node : new int[] {Integer.MIN_VALUE, -1, 6, 12, Integer.MAX_VALUE}) {
            allThrow(due, NO_SUCH, TickEdges::busy, callsOf(node));
            allThrow(due, NO_SUCH, TickEdges::busy,
                new Told("leave(" + node + ")", x -> x.leave(node)),
                new Told("prove(" + node + ", 21)", x -> x.prove(node, 21)));
        }
        for (int message : new int[] {Integer.MIN_VALUE, -1, 3, 60, Integer.MAX_VALUE}) {
            allThrow(due, NO_SUCH, TickEdges::busy,
                new Told("message(" + message + ", 0)", x -> x.message(message, 0)),
                new Told("way(" + message + ", 0)", x -> x.way(message, 0)));
        }
        allAnswer(due, TickEdges::linked, callsOf(0));
        allAnswer(due, TickEdges::linked, callsOf(2));
        allAnswer(due, TickEdges::busy,
            new Told("leave(3)", x -> x.leave(3)),
            new Told("nodeIs(5, 0)", x -> x.nodeIs(5, 0)),
            new Told("message(0, 0)", x -> x.message(0, 0)),
            new Told("message(2, 0)", x -> x.message(2, 0)),
            new Told("way(2, 0)", x -> x.way(2, 0)));
    }

    private static void anotherArgumentOutOfRange(Due due) {
        allThrow(due, OUT, TickEdges::busy,
            new Told("node(-1, 0, 0)", x -> x.node(-1, 0, 0)),
            new Told("link(5, 5, true)", x -> Answer.bit(x.link(5, 5, true))),
            new Told("price(5, 51)", x -> x.price(5, 51)),
            new Told("put(0, 0)", x -> x.put(0, 0)),
            new Told("join(4, -1)", x -> x.join(4, -1)),
            new Told("send(5, 5)", x -> x.send(5, 5)),
            new Told("cost(5, 5)", x -> x.cost(5, 5)),
            new Told("lose(5, 10)", x -> x.lose(5, 10)),
            new Told("message(2, 6)", x -> x.message(2, 6)),
            new Told("prove(3, 10000)", x -> x.prove(3, 10000)),
            new Told("pass(0)", x -> x.pass(0)),
            new Told("nodeIs(5, 7)", x -> x.nodeIs(5, 7)));
        allAnswer(due, TickEdges::busy,
            new Told("node(0, 0, 0)", x -> x.node(0, 0, 0)),
            new Told("link(5, 4, true)", x -> Answer.bit(x.link(5, 4, true))),
            new Told("price(5, 50)", x -> x.price(5, 50)),
            new Told("put(0, 1)", x -> x.put(0, 1)),
            new Told("join(4, 0)", x -> x.join(4, 0)),
            new Told("send(0, 1)", x -> x.send(0, 1)),
            new Told("cost(5, 4)", x -> x.cost(5, 4)),
            new Told("lose(5, 9)", x -> x.lose(5, 9)),
            new Told("message(2, 5)", x -> x.message(2, 5)),
            new Told("pass(1)", x -> x.pass(1)),
            new Told("nodeIs(5, 6)", x -> x.nodeIs(5, 6)));
    }

    private static void stateAsDocumented(Due due) {
        due.fails("node(0, 0, 0) with 12", STATE, () -> Nets.nodes(12), x -> x.node(0, 0, 0));
        due.fails("pass(1) in the tick 5000", STATE, () -> Nets.pass(new RelayStakes(), 5000), x -> x.pass(1));
        allThrow(due, STATE, TickEdges::busy,
            new Told("put(5, 1), GONE", x -> x.put(5, 1)),
            new Told("put(3, 1), an empty purse", x -> x.put(3, 1)),
            new Told("leave(4), LEAVING", x -> x.leave(4)),
            new Told("leave(5), GONE", x -> x.leave(5)),
            new Told("join(0, 1), JOINED", x -> x.join(0, 1)),
            new Told("join(5, 0), GONE", x -> x.join(5, 0)),
            new Told("send(0, 4), no way", x -> x.send(0, 4)),
            new Told("send(3, 0), an empty purse", x -> x.send(3, 0)),
            new Told("prove(0, 25), this tick", x -> x.prove(0, 25)));
    }

    private static void severalApply(Due due) {
        allThrow(due, NO_SUCH, TickEdges::busy,
            new Told("link(6, 6, true)", x -> Answer.bit(x.link(6, 6, true))),
            new Told("link(-1, -1, false)", x -> Answer.bit(x.link(-1, -1, false))),
            new Told("price(6, 51)", x -> x.price(6, 51)),
            new Told("put(6, 0)", x -> x.put(6, 0)),
            new Told("join(6, -1)", x -> x.join(6, -1)),
            new Told("send(6, 6)", x -> x.send(6, 6)),
            new Told("send(3, 6), an empty purse", x -> x.send(3, 6)),
            new Told("cost(6, 6)", x -> x.cost(6, 6)),
            new Told("lose(6, 10)", x -> x.lose(6, 10)),
            new Told("message(3, 6)", x -> x.message(3, 6)),
            new Told("prove(6, 10000)", x -> x.prove(6, 10000)),
            new Told("prove(6, 25)", x -> x.prove(6, 25)),
            new Told("nodeIs(6, 7)", x -> x.nodeIs(6, 7)));
        allThrow(due, OUT, TickEdges::busy,
            new Told("put(5, 0), GONE", x -> x.put(5, 0)),
            new Told("put(3, 10000), an empty purse", x -> x.put(3, 10000)),
            new Told("join(0, -1), JOINED", x -> x.join(0, -1)),
            new Told("join(0, 10000), JOINED", x -> x.join(0, 10000)),
            new Told("join(5, -1), GONE", x -> x.join(5, -1)),
            new Told("send(3, 3), an empty purse", x -> x.send(3, 3)),
            new Told("prove(0, 10000), not passed", x -> x.prove(0, 10000)),
            new Told("prove(0, -1), ahead of the latest 10", x -> x.prove(0, -1)));
        due.fails("node(0, 0, 51) with 12", OUT, () -> Nets.nodes(12), x -> x.node(0, 0, 51));
        due.fails("pass(31) in the tick 5000", OUT, () -> Nets.pass(new RelayStakes(), 5000), x -> x.pass(31));
        RelayStakes sixty = Nets.link(Nets.nodes(2), 0, 1);
        for (int i = 0; i < 60; i++) {
            sixty.send(0, 1);
        }
        due.same("send(2, 2) with 60", Answer.of(() -> sixty.send(2, 2)), "throws.IndexOutOfBoundsException");
        due.same("send(0, 2) with 60", Answer.of(() -> sixty.send(0, 2)), "throws.IndexOutOfBoundsException");
        due.same("send(1, 1) with 60", Answer.of(() -> sixty.send(1, 1)), "throws.IllegalArgumentException");
        due.same("send(0, 1) with 60", Answer.of(() -> sixty.send(0, 1)), "throws.IllegalStateException");
    }

    /** Each of them leaves an object that answers as one without it; here they come one behind the other, too. */
    private static void changesNothing(Due due) {
        RelayStakes x = busy();
        Told[] all = {
            new Told("node(0, 0, 51)", y -> y.node(0, 0, 51)),
            new Told("link(0, 6, true)", y -> Answer.bit(y.link(0, 6, true))),
            new Told("link(6, 0, false)", y -> Answer.bit(y.link(6, 0, false))),
            new Told("link(0, 0, true)", y -> Answer.bit(y.link(0, 0, true))),
            new Told("price(0, 51)", y -> y.price(0, 51)),
            new Told("put(0, 9999)", y -> y.put(0, 9999)),
            new Told("put(5, 1)", y -> y.put(5, 1)),
            new Told("leave(4)", y -> y.leave(4)),
            new Told("leave(5)", y -> y.leave(5)),
            new Told("join(0, 1)", y -> y.join(0, 1)),
            new Told("join(4, 9999)", y -> y.join(4, 9999)),
            new Told("join(5, 0)", y -> y.join(5, 0)),
            new Told("join(5, 9999)", y -> y.join(5, 9999)),
            new Told("send(0, 0)", y -> y.send(0, 0)),
            new Told("send(0, 5)", y -> y.send(0, 5)),
            new Told("send(3, 0)", y -> y.send(3, 0)),
            new Told("cost(0, 0)", y -> y.cost(0, 0)),
            new Told("lose(2, 10)", y -> y.lose(2, 10)),
            new Told("lose(2, -1)", y -> y.lose(2, -1)),
            new Told("message(2, 6)", y -> y.message(2, 6)),
            new Told("way(2, -1)", y -> y.way(2, -1)),
            new Told("wake(6)", y -> Answer.bit(y.wake(6))),
            new Told("prove(0, 25)", y -> y.prove(0, 25)),
            new Told("prove(5, 20)", y -> y.prove(5, 20)),
            new Told("prove(0, 22)", y -> y.prove(0, 22)),
            new Told("pass(31)", y -> y.pass(31)),
            new Told("pass(0)", y -> y.pass(0)),
            new Told("nodeIs(0, 7)", y -> y.nodeIs(0, 7)),
            new Told("paidAnew(6)", y -> y.paidAnew(6))};
        for (Told one : all) {
            due.same(one.name + " throws", String.valueOf(Answer.of(() -> one.call.applyAsLong(x)).startsWith("throws.")), "true");
        }
        due.same("all that can be asked, after all of them", Observed.all(x), Observed.all(busy()));
        due.fails("put(0, 101) of 100", STATE, () -> Nets.nodes(2), y -> y.put(0, 101));
        due.fails("join(0, 101) of 100", STATE, Nets::leaving, y -> y.join(0, 101));
        due.fails("send(0, 2) of 4", STATE, () -> Nets.line(4, 20, 5), y -> y.send(0, 2));
        due.fails("pass(2) in the tick 4999", STATE, () -> Nets.pass(Nets.sent(), 4999), y -> y.pass(2));
        due.fails("a 13th node", STATE, () -> Nets.nodes(12), y -> y.node(1, 1, 1));
        due.fails("wake(-1)", NO_SUCH, TickEdges::busy, y -> Answer.bit(y.wake(-1)));
        due.fails("wake(6)", NO_SUCH, TickEdges::busy, y -> Answer.bit(y.wake(6)));
        due.fails("prove(0, 2), proven", STATE, TickEdges::proven, y -> y.prove(0, 2));
        due.fails("prove(2, 1), the prover asleep", STATE, TickEdges::proven, y -> y.prove(2, 1));
        due.fails("link(0, 4, true), ahead of a node 4", NO_SUCH, Nets::overTwo, y -> Answer.bit(y.link(0, 4, true)));
        due.fails("link(4, 0, true), ahead of a node 4", NO_SUCH, Nets::overTwo, y -> Answer.bit(y.link(4, 0, true)));
    }

    /** In the tick 4 the turn of 2, in the tick 2, is proven; the one of 1, ahead of it, was slept, too. */
    private static RelayStakes proven() {
        RelayStakes x = Nets.ticks(Nets.nodes(3), "...w");
        x.prove(0, 2);
        return x;
    }

    private static void theTickAtFirst(Due due) {
        due.is("pass(1) of a new object", new RelayStakes().pass(1), 1);
        due.is("pass(30) of a new object", new RelayStakes().pass(30), 30);
        due.is("leave(0) of a new object", Nets.nodes(1).leave(0), 15);
        due.fails("prove(0, 0), not passed", STATE, () -> Nets.nodes(1), x -> x.prove(0, 0));
        due.is("watcher() of a new object", Nets.nodes(1).watcher(), RelayStakes.NONE);
    }

    private static void fiveHundredAndTwelveCalls(Due due) {
        RelayStakes x = new RelayStakes();
        int calls = 0;
        for (int node = 0; node < 12; node++) {
            x.node(9999, 999, 1);
            calls++;
        }
        for (int node = 1; node < 12; node++) {
            x.link(node - 1, node, true);
            calls++;
        }
        for (int message = 0; message < 60; message++) {
            x.send(0, 11);
            calls++;
        }
        int tick = 0;
        while (calls < 509) {
            tick++;
            due.is("the call " + (calls + 1) + ", pass(1)", x.pass(1), tick);
            due.is("the call " + (calls + 2) + ", watcher()", x.watcher(), tick % 12);
            due.is("the call " + (calls + 3) + ", wake(" + tick % 12 + ")", x.wake(tick % 12), true);
            calls += 3;
        }
        due.is("the call 510, nodeIs(10, 5)", x.nodeIs(10, 5), 60);
        due.is("the call 511, message(59, 4)", x.message(59, 4), 10);
        due.is("the call 512, money()", x.money(), 131976);
    }
}
