/** The edges of nodes and of leaving: 'Nodes', 'Leaving', and promises 1 to 7. */
final class NodeEdges {
    private static final Class<IndexOutOfBoundsException> NO_SUCH = IndexOutOfBoundsException.class;
    private static final Class<IllegalArgumentException> OUT = IllegalArgumentException.class;
    private static final Class<IllegalStateException> STATE = IllegalStateException.class;
    private static final int JOINED = RelayStakes.JOINED;
    private static final int LEAVING = RelayStakes.LEAVING;
    private static final int GONE = RelayStakes.GONE;

    private NodeEdges() {
    }

    static void all(Edges edges) {
        nodes(edges);
        leaving(edges);
        telling(edges);
        linking(edges);
        pricing(edges);
        putting(edges);
        leavingAndJoining(edges);
    }

    private static void nodes(Edges edges) {
        edges.under("Nodes");
        edges.of("Nodes are numbered from 0, at most 12", NodeEdges::numbers);
        edges.of("a price for a hop, 0 to 50", NodeEdges::prices);
        edges.of("trust, 0 to 100, 50 at first", NodeEdges::trust);
        edges.of("It is JOINED, LEAVING, or GONE.", NodeEdges::how);
        edges.of("Links are between two unlike nodes", NodeEdges::unlikeNodes);
        edges.of("both ways", NodeEdges::bothWays);
        edges.under("Promise 1: A new object");
        edges.of("No nodes and messages.", NodeEdges::newObject);
    }

    private static void leaving(Edges edges) {
        edges.under("Leaving");
        edges.of("A node that leaves is LEAVING for 15 ticks, and GONE then", NodeEdges::fifteenTicks);
        edges.of("its stake goes to its purse as that tick begins", NodeEdges::stakeOfOneThatIsGone);
        edges.of("as that tick begins", NodeEdges::stakeStaysUntilThatTickBegins);
        edges.of("A node that is LEAVING can join again", NodeEdges::oneThatIsLeavingJoins);
        edges.of("a GONE one, too, if it puts a stake", NodeEdges::oneThatIsGoneJoins);
        edges.of("`NONE = -1`: There is none.", due -> due.is("NONE", RelayStakes.NONE, -1));
        edges.of("`JOINED = 0, LEAVING = 1, GONE = 2`: How nodes are.", NodeEdges::howNodesAre);
        edges.of("`ON_WAY = 0, DELIVERED = 1, LOST = 2`: How messages are.", NodeEdges::howMessagesAre);
        edges.names("The constants:");
        edges.names("Ahead of the calls");
        edges.names("---- ");
    }

    private static void telling(Edges edges) {
        edges.under("Promise 2: node");
        edges.of("Tells a node, which is JOINED.", NodeEdges::aNewNodeIsJoined);
        edges.of("`purse`: 0 to 9999", NodeEdges::purseOfANode);
        edges.of("`stake`: 0 to 999", NodeEdges::stakeOfANode);
        edges.of("`price`: 0 to 50", NodeEdges::priceOfANode);
        edges.of("Returns its number.", NodeEdges::numberOfANode);
        edges.of("Throws `IllegalArgumentException` if purse, stake or price is out of range", NodeEdges::nodeOutOfRange);
        edges.of("Throws `IllegalStateException` if there are 12", NodeEdges::nodeWithTwelve);
    }

    private static void linking(Edges edges) {
        edges.under("Promise 3: link");
        edges.of("Links two nodes, or parts them", NodeEdges::linksOrParts);
        edges.of("messages that are on their way go on", NodeEdges::partedUnderWay);
        edges.of("Returns whether they were linked.", NodeEdges::whetherLinked);
        edges.of("Throws `IndexOutOfBoundsException` if there is no such node, of either", NodeEdges::linkWithoutNode);
        edges.of("Throws `IllegalArgumentException` if both are the same", NodeEdges::linkOfTheSame);
    }

    private static void pricing(Edges edges) {
        edges.under("Promise 4: price");
        edges.of("Sets the price of a node.", NodeEdges::setsThePrice);
        edges.of("`price`: 0 to 50", NodeEdges::priceToSet);
        edges.of("Returns the one before.", NodeEdges::priceBefore);
        edges.of("Throws `IndexOutOfBoundsException` if there is no such node",
            due -> due.range("price(node, 0)", 0, 1, NO_SUCH, () -> Nets.nodes(2), (x, node) -> x.price(node, 0)));
        edges.of("Throws `IllegalArgumentException` if price is out of range",
            due -> due.range("price(1, price)", 0, 50, OUT, () -> Nets.nodes(2), (x, price) -> x.price(1, price)));
    }

    private static void putting(Edges edges) {
        edges.under("Promise 5: put");
        edges.of("Puts some of the purse of a node to its stake.", NodeEdges::puts);
        edges.of("`money`: 1 to 9999", NodeEdges::moneyToPut);
        edges.of("Returns the stake then.", NodeEdges::stakeAfterPut);
        edges.of("Throws `IndexOutOfBoundsException` if there is no such node",
            due -> due.range("put(node, 1)", 0, 1, NO_SUCH, () -> Nets.nodes(2), (x, node) -> x.put(node, 1)));
        edges.of("Throws `IllegalArgumentException` if money is out of range",
            due -> due.range("put(0, money)", 1, 9999, OUT, NodeEdges::rich, (x, money) -> x.put(0, money)));
        edges.of("Throws `IllegalStateException` if its purse has not so much", NodeEdges::putMoreThanThePurse);
        edges.of("or it is GONE", NodeEdges::putWhenGone);
    }

    private static void leavingAndJoining(Edges edges) {
        edges.under("Promise 6: leave");
        edges.of("Lets a node leave.", NodeEdges::leaves);
        edges.of("Returns the tick in which it is GONE.", NodeEdges::tickOfBeingGone);
        edges.of("Throws `IndexOutOfBoundsException` if there is no such node",
            due -> due.range("leave(node)", 0, 1, NO_SUCH, () -> Nets.nodes(2), (x, node) -> x.leave(node)));
        edges.of("Throws `IllegalStateException` if it is not JOINED", NodeEdges::leaveWhenNotJoined);
        edges.under("Promise 7: join");
        edges.of("Lets a node join again.", NodeEdges::joins);
        edges.of("`money`: 0 to 9999: of its purse to its stake", NodeEdges::moneyToJoin);
        edges.of("Returns the stake then.", NodeEdges::stakeAfterJoin);
        edges.of("Throws `IndexOutOfBoundsException` if there is no such node",
            due -> due.range("join(node, 0)", 0, 1, NO_SUCH, NodeEdges::twoLeaving, (x, node) -> x.join(node, 0)));
        edges.of("Throws `IllegalArgumentException` if money is out of range", NodeEdges::joinOutOfRange);
        edges.of("Throws `IllegalStateException` if it is JOINED", NodeEdges::joinWhenJoined);
        edges.of("its purse has not so much", NodeEdges::joinMoreThanThePurse);
        edges.of("or it is GONE, and money is 0", NodeEdges::joinWhenGoneWithoutMoney);
    }

    // ---- Nodes

    private static void numbers(Due due) {
        RelayStakes x = new RelayStakes();
        for (int i = 0; i < 12; i++) {
            int node = i;
            due.same("nodeIs(" + i + ", 0) ahead of it", Answer.of(() -> x.nodeIs(node, 0)), "throws.IndexOutOfBoundsException");
            due.is("node " + i, x.node(i, 0, 0), i);
            due.is("nodeIs(" + i + ", 0)", x.nodeIs(i, 0), i);
        }
        due.fails("a 13th node", STATE, () -> Nets.nodes(12), y -> y.node(0, 0, 0));
        due.fails("nodeIs(12, 0) with 12", NO_SUCH, () -> Nets.nodes(12), y -> y.nodeIs(12, 0));
        due.answers("a 12th node", 11, () -> Nets.nodes(11), y -> y.node(0, 0, 0));
    }

    private static void prices(Due due) {
        for (int price : new int[] {0, 1, 49, 50}) {
            RelayStakes x = Nets.line(100, 999, price);
            due.is("cost(0, 2) with a price of " + price, x.cost(0, 2), price);
            due.is("price(1, 0) with a price of " + price, x.price(1, 0), price);
        }
        due.fails("node(0, 0, -1)", OUT, () -> Nets.nodes(1), x -> x.node(0, 0, -1));
        due.fails("node(0, 0, 51)", OUT, () -> Nets.nodes(1), x -> x.node(0, 0, 51));
        due.fails("price(0, -1)", OUT, () -> Nets.nodes(1), x -> x.price(0, -1));
        due.fails("price(0, 51)", OUT, () -> Nets.nodes(1), x -> x.price(0, 51));
    }

    private static void trust(Due due) {
        RelayStakes x = Nets.line(0, 0, 0);
        for (int node = 0; node < 3; node++) {
            due.is("nodeIs(" + node + ", 2) at first", x.nodeIs(node, 2), 50);
        }
        int[] want = {51, 52, 53};
        for (int trust : want) {
            x.send(0, 2);
            x.pass(2);
            due.is("nodeIs(1, 2), one delivered more", x.nodeIs(1, 2), trust);
        }
        for (int i = 0; i < 46; i++) {
            x.send(0, 2);
        }
        x.pass(2);
        due.is("nodeIs(1, 2) after 49", x.nodeIs(1, 2), 99);
        for (int i = 0; i < 3; i++) {
            x.send(0, 2);
            x.pass(2);
            due.is("nodeIs(1, 2) after " + (50 + i), x.nodeIs(1, 2), 100);
        }
        x = Nets.line(0, 0, 0);
        x.lose(1, 4);
        for (int trust : new int[] {30, 10, 0, 0}) {
            x.send(0, 2);
            x.pass(1);
            due.is("nodeIs(1, 2), one lost more", x.nodeIs(1, 2), trust);
        }
        x.send(0, 2);
        x.pass(2);
        due.is("nodeIs(1, 2) from 0 on", x.nodeIs(1, 2), 1);
    }

    private static void how(Due due) {
        RelayStakes x = Nets.nodes(1);
        due.is("nodeIs(0, 3) at first", x.nodeIs(0, 3), JOINED);
        x.leave(0);
        due.is("nodeIs(0, 3), as it left", x.nodeIs(0, 3), LEAVING);
        x.join(0, 0);
        due.is("nodeIs(0, 3), as it joined again", x.nodeIs(0, 3), JOINED);
        x.leave(0);
        x.pass(15);
        due.is("nodeIs(0, 3), 15 ticks behind", x.nodeIs(0, 3), GONE);
        x.join(0, 1);
        due.is("nodeIs(0, 3), with a stake", x.nodeIs(0, 3), JOINED);
    }

    private static void unlikeNodes(Due due) {
        for (int node = 0; node < 2; node++) {
            int same = node;
            due.fails("link(" + node + ", " + node + ")", OUT, () -> Nets.nodes(2), x -> Answer.bit(x.link(same, same, true)));
        }
        due.is("link(0, 1)", Nets.nodes(2).link(0, 1, true), false);
        due.is("link(0, 11)", Nets.nodes(12).link(0, 11, true), false);
    }

    private static void bothWays(Due due) {
        RelayStakes x = Nets.nodes(12);
        x.link(11, 0, true);
        due.is("cost(11, 0)", x.cost(11, 0), 0);
        due.is("cost(0, 11)", x.cost(0, 11), 0);
        due.is("link(0, 11, true)", x.link(0, 11, true), true);
        due.is("link(0, 11, false)", x.link(0, 11, false), true);
        due.is("cost(11, 0), parted from the other side", x.cost(11, 0), -1);
        due.is("link(11, 0, false), parted from the other side", x.link(11, 0, false), false);
        due.is("link(0, 10, false), never linked", x.link(0, 10, false), false);
        due.is("link(11, 1, false), never linked", x.link(11, 1, false), false);
    }

    private static void newObject(Due due) {
        due.fails("nodeIs(0, 0)", NO_SUCH, RelayStakes::new, x -> x.nodeIs(0, 0));
        due.fails("message(0, 0)", NO_SUCH, RelayStakes::new, x -> x.message(0, 0));
        due.fails("way(0, 0)", NO_SUCH, RelayStakes::new, x -> x.way(0, 0));
        RelayStakes x = new RelayStakes();
        due.is("money()", x.money(), 0);
        due.is("node(7, 0, 0)", x.node(7, 0, 0), 0);
        due.is("node(8, 0, 0)", x.node(8, 0, 0), 1);
        x.link(0, 1, true);
        due.is("send(0, 1)", x.send(0, 1), 0);
        RelayStakes y = new RelayStakes();
        due.is("money() of another one", y.money(), 0);
        due.same("nodeIs(0, 0) of another one", Answer.of(() -> y.nodeIs(0, 0)), "throws.IndexOutOfBoundsException");
        due.same("message(0, 0) of another one", Answer.of(() -> y.message(0, 0)), "throws.IndexOutOfBoundsException");
    }

    // ---- Leaving

    private static void fifteenTicks(Due due) {
        for (int from : new int[] {0, 1, 14, 15, 40}) {
            RelayStakes x = Nets.pass(Nets.nodes(2), from);
            x.leave(0);
            for (int behind = 0; behind <= 16; behind++) {
                due.is("nodeIs(0, 3), " + behind + " ticks behind the tick " + from, x.nodeIs(0, 3), behind < 15 ? LEAVING : GONE);
                due.is("nodeIs(1, 3), which stays", x.nodeIs(1, 3), JOINED);
                x.pass(1);
            }
        }
        due.is("nodeIs(0, 3), 15 ticks at once", Nets.gone().nodeIs(0, 3), GONE);
    }

    private static void money(Due due, String when, RelayStakes x, int purse, int stake) {
        due.is(when + ": nodeIs(0, 0)", x.nodeIs(0, 0), purse);
        due.is(when + ": nodeIs(0, 1)", x.nodeIs(0, 1), stake);
    }

    private static void stakeOfOneThatIsGone(Due due) {
        RelayStakes x = Nets.leaving();
        money(due, "as it left", x, 100, 20);
        x.put(0, 30);
        x.pass(14);
        money(due, "in the tick 14", x, 70, 50);
        x.pass(1);
        money(due, "in the tick 15", x, 120, 0);
        x.pass(1);
        money(due, "in the tick 16", x, 120, 0);
        due.is("nodeIs(1, 1), which stays", x.nodeIs(1, 1), 20);
        due.is("money()", x.money(), 240);
        RelayStakes without = new RelayStakes();
        without.node(9, 0, 0);
        without.leave(0);
        without.pass(15);
        money(due, "without a stake", without, 9, 0);
        RelayStakes joined = Nets.leaving();
        joined.pass(14);
        joined.join(0, 0);
        joined.pass(1);
        money(due, "joined in the tick 14", joined, 100, 20);
    }

    private static void stakeStaysUntilThatTickBegins(Due due) {
        RelayStakes x = Nets.pass(Nets.leaving(), 14);
        due.is("put(0, 100) in the tick 14", x.put(0, 100), 120);
        x.pass(1);
        money(due, "in the tick 15", x, 120, 0);
        due.is("join(0, 5) in the tick 15", x.join(0, 5), 5);
        x = Nets.pass(Nets.leaving(), 14);
        due.is("join(0, 5) in the tick 14", x.join(0, 5), 25);
    }

    private static void oneThatIsLeavingJoins(Due due) {
        RelayStakes x = Nets.leaving();
        due.is("join(0, 0), as it left", x.join(0, 0), 20);
        due.is("nodeIs(0, 3), as it left", x.nodeIs(0, 3), JOINED);
        x.pass(16);
        due.is("nodeIs(0, 3), when it would be GONE", x.nodeIs(0, 3), JOINED);
        RelayStakes last = Nets.pass(Nets.leaving(), 14);
        due.is("join(0, 0) in the last tick", last.join(0, 0), 20);
        last.pass(1);
        due.is("nodeIs(0, 3) in the tick 15", last.nodeIs(0, 3), JOINED);
        due.is("leave(0) anew", last.leave(0), 30);
        last.pass(14);
        due.is("nodeIs(0, 3), 14 ticks behind", last.nodeIs(0, 3), LEAVING);
        last.pass(1);
        due.is("nodeIs(0, 3), 15 ticks behind", last.nodeIs(0, 3), GONE);
    }

    private static void oneThatIsGoneJoins(Due due) {
        due.fails("join(0, 0)", STATE, Nets::gone, x -> x.join(0, 0));
        due.answers("join(0, 1)", 1, Nets::gone, x -> x.join(0, 1));
        due.answers("join(0, 2)", 2, Nets::gone, x -> x.join(0, 2));
        due.answers("join(0, 0) of one that is LEAVING", 20, Nets::leaving, x -> x.join(0, 0));
        RelayStakes x = Nets.gone();
        x.join(0, 1);
        due.is("nodeIs(0, 3)", x.nodeIs(0, 3), JOINED);
        x.pass(30);
        due.is("nodeIs(0, 3), 30 ticks behind", x.nodeIs(0, 3), JOINED);
    }

    private static void howNodesAre(Due due) {
        due.is("JOINED", JOINED, 0);
        due.is("LEAVING", LEAVING, 1);
        due.is("GONE", GONE, 2);
    }

    private static void howMessagesAre(Due due) {
        due.is("ON_WAY", RelayStakes.ON_WAY, 0);
        due.is("DELIVERED", RelayStakes.DELIVERED, 1);
        due.is("LOST", RelayStakes.LOST, 2);
    }

    // ---- promise 2

    private static void aNewNodeIsJoined(Due due) {
        RelayStakes x = new RelayStakes();
        for (int node = 0; node < 12; node++) {
            x.node(0, 0, 50);
            due.is("nodeIs(" + node + ", 3)", x.nodeIs(node, 3), JOINED);
            due.is("nodeIs(" + node + ", 4)", x.nodeIs(node, 4), 0);
            due.is("nodeIs(" + node + ", 5)", x.nodeIs(node, 5), 0);
            due.is("nodeIs(" + node + ", 6)", x.nodeIs(node, 6), -1);
            due.is("paidAnew(" + node + ")", x.paidAnew(node), 0);
            due.is("lose(" + node + ", 0)", x.lose(node, 0), 0);
        }
    }

    private static void purseOfANode(Due due) {
        due.range("node(purse, 1, 2)", 0, 9999, OUT, () -> Nets.nodes(1), (x, purse) -> x.node(purse, 1, 2));
        for (int purse : new int[] {0, 1, 9998, 9999}) {
            RelayStakes x = new RelayStakes();
            x.node(purse, 1, 2);
            due.is("nodeIs(0, 0) of " + purse, x.nodeIs(0, 0), purse);
        }
    }

    private static void stakeOfANode(Due due) {
        due.range("node(1, stake, 2)", 0, 999, OUT, () -> Nets.nodes(1), (x, stake) -> x.node(1, stake, 2));
        for (int stake : new int[] {0, 1, 998, 999}) {
            RelayStakes x = new RelayStakes();
            x.node(1, stake, 2);
            due.is("nodeIs(0, 1) of " + stake, x.nodeIs(0, 1), stake);
        }
    }

    private static void priceOfANode(Due due) {
        due.range("node(1, 2, price)", 0, 50, OUT, () -> Nets.nodes(1), (x, price) -> x.node(1, 2, price));
        for (int price : new int[] {0, 1, 49, 50}) {
            RelayStakes x = new RelayStakes();
            x.node(1, 2, price);
            due.is("price(0, 0) of " + price, x.price(0, 0), price);
        }
    }

    private static void numberOfANode(Due due) {
        RelayStakes x = new RelayStakes();
        for (int node = 0; node < 12; node++) {
            due.is("node " + node, x.node(50, 0, 0), node);
            due.same("node(0, 0, 51)", Answer.of(() -> x.node(0, 0, 51)), "throws.IllegalArgumentException");
        }
        RelayStakes gone = Nets.gone();
        due.is("a node behind one that is GONE", gone.node(0, 0, 0), 2);
    }

    private static void nodeOutOfRange(Due due) {
        int[][] wrong = {{-1, 0, 0}, {10000, 0, 0}, {0, -1, 0}, {0, 1000, 0}, {0, 0, -1}, {0, 0, 51},
            {-1, 1000, 51}, {9999, 999, 51}, {9999, 1000, 50}, {10000, 999, 50}};
        for (int[] one : wrong) {
            String call = "node(" + one[0] + ", " + one[1] + ", " + one[2] + ")";
            due.fails(call, OUT, () -> Nets.nodes(2), x -> x.node(one[0], one[1], one[2]));
            due.fails(call + " with 12", OUT, () -> Nets.nodes(12), x -> x.node(one[0], one[1], one[2]));
        }
        due.answers("node(9999, 999, 50)", 2, () -> Nets.nodes(2), x -> x.node(9999, 999, 50));
        due.answers("node(0, 0, 0)", 2, () -> Nets.nodes(2), x -> x.node(0, 0, 0));
    }

    private static void nodeWithTwelve(Due due) {
        due.answers("node(0, 0, 0) with 10", 10, () -> Nets.nodes(10), x -> x.node(0, 0, 0));
        due.answers("node(0, 0, 0) with 11", 11, () -> Nets.nodes(11), x -> x.node(0, 0, 0));
        due.fails("node(0, 0, 0) with 12", STATE, () -> Nets.nodes(12), x -> x.node(0, 0, 0));
        RelayStakes x = Nets.nodes(12);
        for (int node = 0; node < 12; node++) {
            x.leave(node);
        }
        x.pass(15);
        due.same("node(0, 0, 0) with 12 that are GONE", Answer.of(() -> x.node(0, 0, 0)), "throws.IllegalStateException");
    }

    // ---- promise 3

    private static void linksOrParts(Due due) {
        RelayStakes x = Nets.nodes(3);
        due.is("cost(0, 1), not linked", x.cost(0, 1), -1);
        x.link(0, 1, false);
        due.is("cost(0, 1), parted when not linked", x.cost(0, 1), -1);
        x.link(0, 1, true);
        due.is("cost(0, 1), linked", x.cost(0, 1), 0);
        x.link(0, 1, true);
        due.is("cost(0, 1), linked when linked", x.cost(0, 1), 0);
        due.is("cost(0, 2), another", x.cost(0, 2), -1);
        due.is("cost(1, 2), another", x.cost(1, 2), -1);
        x.link(1, 2, true);
        x.link(0, 1, false);
        due.is("cost(0, 1), parted", x.cost(0, 1), -1);
        due.is("cost(1, 2), another", x.cost(1, 2), 0);
        RelayStakes all = Nets.nodes(12);
        for (int node = 0; node < 12; node++) {
            for (int other = 0; other < node; other++) {
                all.link(node, other, true);
            }
        }
        all.link(11, 10, false);
        due.is("cost(11, 10), parted, with all others linked", all.cost(11, 10), 5);
        due.is("cost(11, 9), with all others linked", all.cost(11, 9), 0);
    }

    private static void partedUnderWay(Due due) {
        for (int parted = 0; parted <= 3; parted++) {
            RelayStakes x = Nets.line(100, 40, 9, 30, 7);
            x.send(0, 3);
            for (int tick = 0; tick <= 3; tick++) {
                due.is("message(0, 1) in the tick " + tick + ", parted in " + parted, x.message(0, 1), tick);
                if (tick == parted) {
                    x.link(0, 1, false);
                    x.link(1, 2, false);
                    x.link(3, 2, false);
                }
                x.pass(1);
            }
            due.is("message(0, 0), parted in the tick " + parted, x.message(0, 0), RelayStakes.DELIVERED);
            due.is("nodeIs(1, 0), parted in the tick " + parted, x.nodeIs(1, 0), 9);
            due.is("nodeIs(2, 0), parted in the tick " + parted, x.nodeIs(2, 0), 7);
        }
    }

    private static void whetherLinked(Due due) {
        RelayStakes x = Nets.nodes(12);
        int[][] pairs = {{0, 1}, {11, 0}, {10, 11}, {5, 6}};
        for (int[] pair : pairs) {
            String of = "(" + pair[0] + ", " + pair[1] + ")";
            due.is("parting " + of + ", never linked", x.link(pair[0], pair[1], false), false);
            due.is("linking " + of, x.link(pair[0], pair[1], true), false);
            due.is("linking " + of + " anew", x.link(pair[0], pair[1], true), true);
            due.is("linking " + of + " the other way round", x.link(pair[1], pair[0], true), true);
            due.is("parting " + of + " the other way round", x.link(pair[1], pair[0], false), true);
            due.is("parting " + of + " anew", x.link(pair[0], pair[1], false), false);
        }
    }

    private static void linkWithoutNode(Due due) {
        for (boolean is : new boolean[] {true, false}) {
            Due.OfTwo call = (x, node, other) -> Answer.bit(x.link(node, other, is));
            due.noSuchOfEither("link " + is, 2, () -> Nets.nodes(2), call);
            due.noSuchOfEither("link " + is + " with 12", 12, () -> Nets.nodes(12), call);
        }
    }

    private static void linkOfTheSame(Due due) {
        for (boolean is : new boolean[] {true, false}) {
            due.bothTheSame("link " + is, 3, () -> Nets.nodes(3), (x, node, other) -> Answer.bit(x.link(node, other, is)));
        }
        due.fails("link(11, 11, true)", OUT, () -> Nets.nodes(12), x -> Answer.bit(x.link(11, 11, true)));
        due.answers("link(1, 2, true)", 0, () -> Nets.nodes(3), x -> Answer.bit(x.link(1, 2, true)));
    }

    // ---- promise 4

    private static void setsThePrice(Due due) {
        RelayStakes x = Nets.line(100, 999, 5);
        for (int price : new int[] {0, 1, 49, 50, 0}) {
            x.price(1, price);
            due.is("cost(0, 2) after price(1, " + price + ")", x.cost(0, 2), price);
        }
        x.price(0, 7);
        x.price(2, 8);
        due.is("cost(0, 2), priced elsewhere", x.cost(0, 2), 0);
    }

    private static void priceToSet(Due due) {
        due.range("price(0, price)", 0, 50, OUT, () -> Nets.nodes(1), (x, price) -> x.price(0, price));
        due.range("price(0, price), GONE", 0, 50, OUT, Nets::gone, (x, price) -> x.price(0, price));
        for (int price : new int[] {0, 1, 49, 50}) {
            RelayStakes x = Nets.nodes(1);
            x.price(0, price);
            due.is("price(0, 0) after " + price, x.price(0, 0), price);
        }
    }

    private static void priceBefore(Due due) {
        RelayStakes x = Nets.nodes(2);
        due.is("price(0, 50)", x.price(0, 50), 5);
        due.is("price(0, 50) anew", x.price(0, 50), 50);
        due.is("price(0, 0)", x.price(0, 0), 50);
        due.is("price(0, 1)", x.price(0, 1), 0);
        due.is("price(1, 1), of another", x.price(1, 1), 5);
        due.same("price(0, 51)", Answer.of(() -> x.price(0, 51)), "throws.IllegalArgumentException");
        due.is("price(0, 2), after one that is out of range", x.price(0, 2), 1);
    }

    // ---- promise 5

    /** Node 0 has a purse of 10997 and a stake of 1, and is JOINED. */
    private static RelayStakes rich() {
        RelayStakes x = richAndGone();
        x.join(0, 1);
        return x;
    }

    private static void puts(Due due) {
        RelayStakes x = Nets.nodes(2);
        x.put(0, 1);
        money(due, "put(0, 1)", x, 99, 21);
        x.put(0, 98);
        money(due, "put(0, 98)", x, 1, 119);
        x.put(0, 1);
        money(due, "put(0, 1), the last of its purse", x, 0, 120);
        due.is("money()", x.money(), 240);
        due.is("nodeIs(1, 0), of another", x.nodeIs(1, 0), 100);
        due.is("nodeIs(1, 1), of another", x.nodeIs(1, 1), 20);
        RelayStakes y = Nets.leaving();
        y.put(0, 5);
        money(due, "put(0, 5), LEAVING", y, 95, 25);
        due.is("nodeIs(0, 3), LEAVING", y.nodeIs(0, 3), LEAVING);
        due.is("nodeIs(0, 6), LEAVING", y.nodeIs(0, 6), 15);
    }

    private static void moneyToPut(Due due) {
        due.range("put(0, money)", 1, 9999, OUT, NodeEdges::rich, (x, money) -> x.put(0, money));
        for (int money : new int[] {1, 2, 9998, 9999}) {
            RelayStakes x = rich();
            x.put(0, money);
            money(due, "put(0, " + money + ")", x, 10997 - money, 1 + money);
        }
    }

    private static void stakeAfterPut(Due due) {
        RelayStakes x = new RelayStakes();
        x.node(9999, 0, 0);
        x.node(9999, 999, 0);
        due.is("put(0, 1)", x.put(0, 1), 1);
        due.is("put(0, 1) anew", x.put(0, 1), 2);
        due.is("put(1, 1), above what a node is told with", x.put(1, 1), 1000);
        due.is("put(1, 9998)", x.put(1, 9998), 10998);
        due.is("nodeIs(1, 1)", x.nodeIs(1, 1), 10998);
    }

    private static void putMoreThanThePurse(Due due) {
        due.answers("put(0, 99) of 100", 119, () -> Nets.nodes(1), x -> x.put(0, 99));
        due.answers("put(0, 100) of 100", 120, () -> Nets.nodes(1), x -> x.put(0, 100));
        due.fails("put(0, 101) of 100", STATE, () -> Nets.nodes(1), x -> x.put(0, 101));
        due.fails("put(0, 120) of 100, and a stake of 20", STATE, () -> Nets.nodes(1), x -> x.put(0, 120));
        due.answers("put(0, 100) of 100, LEAVING", 120, Nets::leaving, x -> x.put(0, 100));
        due.fails("put(0, 101) of 100, LEAVING", STATE, Nets::leaving, x -> x.put(0, 101));
        due.fails("put(0, 1) of 0", STATE, () -> Nets.line(0), x -> x.put(0, 1));
        due.fails("put(0, 9999) of 9998", STATE, () -> Nets.line(9998), x -> x.put(0, 9999));
    }

    private static void putWhenGone(Due due) {
        due.answers("put(0, 1) in the tick 14", 21, () -> Nets.pass(Nets.leaving(), 14), x -> x.put(0, 1));
        due.fails("put(0, 1) in the tick 15", STATE, Nets::gone, x -> x.put(0, 1));
        due.fails("put(0, 120) in the tick 15", STATE, Nets::gone, x -> x.put(0, 120));
        due.fails("put(0, 1) in the tick 16", STATE, () -> Nets.pass(Nets.gone(), 1), x -> x.put(0, 1));
        RelayStakes x = Nets.gone();
        x.join(0, 1);
        due.is("put(0, 1), joined again", x.put(0, 1), 2);
    }

    // ---- promise 6

    private static void leaves(Due due) {
        RelayStakes x = Nets.pass(Nets.nodes(2), 4);
        x.leave(1);
        due.is("nodeIs(1, 3)", x.nodeIs(1, 3), LEAVING);
        due.is("nodeIs(1, 6)", x.nodeIs(1, 6), 19);
        due.is("nodeIs(1, 0)", x.nodeIs(1, 0), 100);
        due.is("nodeIs(1, 1)", x.nodeIs(1, 1), 20);
        due.is("nodeIs(1, 2)", x.nodeIs(1, 2), 50);
        due.is("nodeIs(0, 3), which stays", x.nodeIs(0, 3), JOINED);
        due.is("nodeIs(0, 6), which stays", x.nodeIs(0, 6), -1);
    }

    private static void tickOfBeingGone(Due due) {
        for (int tick : new int[] {0, 1, 14, 15, 4985, 4986, 5000}) {
            RelayStakes x = Nets.pass(Nets.nodes(1), tick);
            due.is("leave(0) in the tick " + tick, x.leave(0), tick + 15);
            due.is("nodeIs(0, 6) in the tick " + tick, x.nodeIs(0, 6), tick + 15);
        }
        RelayStakes x = Nets.pass(Nets.nodes(1), 4985);
        x.leave(0);
        x.pass(14);
        due.is("nodeIs(0, 3) in the tick 4999", x.nodeIs(0, 3), LEAVING);
        x.pass(1);
        due.is("nodeIs(0, 3) in the tick 5000", x.nodeIs(0, 3), GONE);
    }

    private static void leaveWhenNotJoined(Due due) {
        due.fails("leave(0), as it left", STATE, Nets::leaving, x -> x.leave(0));
        due.fails("leave(0) in the tick 14", STATE, () -> Nets.pass(Nets.leaving(), 14), x -> x.leave(0));
        due.fails("leave(0) in the tick 15", STATE, Nets::gone, x -> x.leave(0));
        due.fails("leave(0) in the tick 16", STATE, () -> Nets.pass(Nets.gone(), 1), x -> x.leave(0));
        due.answers("leave(1), which stays", 30, Nets::gone, x -> x.leave(1));
        RelayStakes x = Nets.leaving();
        x.pass(1);
        x.join(0, 0);
        due.is("leave(0), joined again", x.leave(0), 16);
        RelayStakes y = Nets.gone();
        y.join(0, 1);
        due.is("leave(0), joined from GONE", y.leave(0), 30);
    }

    // ---- promise 7

    private static RelayStakes twoLeaving() {
        RelayStakes x = Nets.leaving();
        x.leave(1);
        return x;
    }

    private static void joins(Due due) {
        RelayStakes x = Nets.pass(Nets.leaving(), 3);
        x.join(0, 7);
        due.is("nodeIs(0, 3)", x.nodeIs(0, 3), JOINED);
        due.is("nodeIs(0, 6)", x.nodeIs(0, 6), -1);
        due.is("nodeIs(0, 2)", x.nodeIs(0, 2), 50);
        money(due, "join(0, 7)", x, 93, 27);
        x.pass(12);
        money(due, "when it would be GONE", x, 93, 27);
        RelayStakes y = Nets.gone();
        y.join(0, 7);
        due.is("nodeIs(0, 3) from GONE", y.nodeIs(0, 3), JOINED);
        due.is("nodeIs(0, 6) from GONE", y.nodeIs(0, 6), -1);
        money(due, "join(0, 7) from GONE", y, 113, 7);
        due.is("money()", y.money(), 240);
    }

    /** Node 0 has a purse of 10998 and no stake, and is GONE. */
    private static RelayStakes richAndGone() {
        RelayStakes x = new RelayStakes();
        x.node(9999, 999, 0);
        x.leave(0);
        return Nets.pass(x, 15);
    }

    private static RelayStakes richAndLeaving() {
        RelayStakes x = richAndGone();
        x.join(0, 1);
        x.leave(0);
        return x;
    }

    private static void moneyToJoin(Due due) {
        due.range("join(0, money), LEAVING", 0, 9999, OUT, NodeEdges::richAndLeaving, (x, money) -> x.join(0, money));
        for (int money : new int[] {0, 1, 9998, 9999}) {
            RelayStakes x = richAndLeaving();
            x.join(0, money);
            money(due, "join(0, " + money + "), LEAVING", x, 10997 - money, 1 + money);
        }
        RelayStakes x = richAndGone();
        x.join(0, 9999);
        money(due, "join(0, 9999), GONE", x, 999, 9999);
    }

    private static void stakeAfterJoin(Due due) {
        due.answers("join(0, 0), LEAVING", 20, Nets::leaving, x -> x.join(0, 0));
        due.answers("join(0, 1), LEAVING", 21, Nets::leaving, x -> x.join(0, 1));
        due.answers("join(0, 100), LEAVING", 120, Nets::leaving, x -> x.join(0, 100));
        due.answers("join(0, 1), GONE", 1, Nets::gone, x -> x.join(0, 1));
        due.answers("join(0, 120), GONE", 120, Nets::gone, x -> x.join(0, 120));
    }

    private static void joinOutOfRange(Due due) {
        for (int money : new int[] {-1, 10000, Integer.MIN_VALUE, Integer.MAX_VALUE}) {
            due.fails("join(0, " + money + "), LEAVING", OUT, Nets::leaving, x -> x.join(0, money));
            due.fails("join(0, " + money + "), GONE", OUT, NodeEdges::richAndGone, x -> x.join(0, money));
            due.fails("join(0, " + money + "), JOINED", OUT, () -> Nets.nodes(1), x -> x.join(0, money));
        }
        due.answers("join(0, 0), LEAVING", 20, Nets::leaving, x -> x.join(0, 0));
        due.answers("join(0, 9999), GONE", 9999, NodeEdges::richAndGone, x -> x.join(0, 9999));
    }

    private static void joinWhenJoined(Due due) {
        due.fails("join(0, 0), JOINED", STATE, () -> Nets.nodes(1), x -> x.join(0, 0));
        due.fails("join(0, 1), JOINED", STATE, () -> Nets.nodes(1), x -> x.join(0, 1));
        due.fails("join(1, 0), another left", STATE, Nets::leaving, x -> x.join(1, 0));
        due.answers("join(0, 0), as it left", 20, Nets::leaving, x -> x.join(0, 0));
        RelayStakes x = Nets.leaving();
        x.join(0, 0);
        due.same("join(0, 0) anew", Answer.of(() -> x.join(0, 0)), "throws.IllegalStateException");
        RelayStakes y = Nets.gone();
        y.join(0, 1);
        due.same("join(0, 1) anew", Answer.of(() -> y.join(0, 1)), "throws.IllegalStateException");
        due.is("nodeIs(0, 1)", y.nodeIs(0, 1), 1);
    }

    private static void joinMoreThanThePurse(Due due) {
        due.answers("join(0, 99) of 100", 119, Nets::leaving, x -> x.join(0, 99));
        due.answers("join(0, 100) of 100", 120, Nets::leaving, x -> x.join(0, 100));
        due.fails("join(0, 101) of 100", STATE, Nets::leaving, x -> x.join(0, 101));
        due.answers("join(0, 119) of 120, GONE", 119, Nets::gone, x -> x.join(0, 119));
        due.answers("join(0, 120) of 120, GONE", 120, Nets::gone, x -> x.join(0, 120));
        due.fails("join(0, 121) of 120, GONE", STATE, Nets::gone, x -> x.join(0, 121));
        RelayStakes x = Nets.line(0);
        x.leave(0);
        due.is("join(0, 0) of 0", x.join(0, 0), 0);
    }

    private static void joinWhenGoneWithoutMoney(Due due) {
        due.answers("join(0, 0) in the tick 14", 20, () -> Nets.pass(Nets.leaving(), 14), x -> x.join(0, 0));
        due.fails("join(0, 0) in the tick 15", STATE, Nets::gone, x -> x.join(0, 0));
        due.fails("join(0, 0) in the tick 16", STATE, () -> Nets.pass(Nets.gone(), 1), x -> x.join(0, 0));
        due.answers("join(0, 1) in the tick 15", 1, Nets::gone, x -> x.join(0, 1));
    }
}
