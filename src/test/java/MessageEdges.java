/** The edges of messages: 'Messages', and promises 8 to 12. */
final class MessageEdges {
    private static final Class<IndexOutOfBoundsException> NO_SUCH = IndexOutOfBoundsException.class;
    private static final Class<IllegalArgumentException> OUT = IllegalArgumentException.class;
    private static final Class<IllegalStateException> STATE = IllegalStateException.class;
    private static final int ON_WAY = RelayStakes.ON_WAY;
    private static final int DELIVERED = RelayStakes.DELIVERED;
    private static final int LOST = RelayStakes.LOST;

    private MessageEdges() {
    }

    static void all(Edges edges) {
        edges.under("Messages");
        ways(edges);
        goingOn(edges);
        sending(edges);
        losing(edges);
        asking(edges);
    }

    private static void ways(Edges edges) {
        edges.of("another one, which may be LEAVING or GONE and cost nothing", MessageEdges::theEnd);
        edges.of("all that are JOINED", MessageEdges::thoseThatAreJoined);
        edges.of("have a stake of at least twice their price", MessageEdges::twiceTheirPrice);
        edges.of("a tenth of what its trust lacks to 100, rounded down", MessageEdges::aTenthOfTheTrust);
        edges.of("the prices of those that relay, each and a tenth of what its trust lacks", MessageEdges::eachAndATenth);
        edges.of("are the least together", MessageEdges::theLeastTogether);
        edges.of("of several the one with the fewest hops", MessageEdges::theFewestHops);
        edges.of("then the one whose first node behind the sender is the lowest", MessageEdges::theLowestFirst);
        edges.of("and so on", MessageEdges::theLowestThen);
        edges.of("The sender pays the prices of those that relay, together, of its purse", MessageEdges::theSenderPays);
        edges.of("prices that change later do not matter for it", MessageEdges::pricesLater);
        edges.of("Messages are numbered from 0, at most 60", MessageEdges::numbers);
    }

    private static void goingOn(Edges edges) {
        edges.of("each message that is on its way, by numbers, goes one hop on", MessageEdges::oneHop);
        edges.of("by numbers", MessageEdges::byNumbers);
        edges.of("from the sender at first", MessageEdges::fromTheSender);
        edges.of("When it comes to a node that relays, and a loss is told for that, it is LOST there", MessageEdges::lostThere);
        edges.of("and that loss is done", MessageEdges::lossIsDone);
        edges.of("otherwise that node has a receipt for it", MessageEdges::receipts);
        edges.of("goes on with it in the next tick, JOINED or not", MessageEdges::joinedOrNot);
        edges.of("When it comes to its end, it is DELIVERED", MessageEdges::delivered);
        edges.of("each node that relayed it has its price into its purse, and 1 more trust", MessageEdges::priceAndTrust);
        edges.of("those with a receipt have their prices, and no more trust", MessageEdges::pricesOfALostOne);
        edges.of("the rest of what is in the message goes back to the sender's purse", MessageEdges::theRest);
        edges.of("as much as they have from the stake of the one that lost it, as far as there is so much", MessageEdges::fromTheStake);
        edges.of("that one has 20 less trust, at least 0", MessageEdges::twentyLessTrust);
    }

    private static void sending(Edges edges) {
        edges.under("Promise 8: send");
        edges.of("Sends a message.", MessageEdges::sends);
        edges.of("Returns its number.", MessageEdges::numberOfAMessage);
        edges.of("Throws `IndexOutOfBoundsException` if there is no such node, of either",
            due -> due.noSuchOfEither("send", 3, MessageEdges::ring, (x, node, to) -> x.send(node, to)));
        edges.of("Throws `IllegalArgumentException` if both are the same",
            due -> due.bothTheSame("send", 3, MessageEdges::ring, (x, node, to) -> x.send(node, to)));
        edges.of("Throws `IllegalStateException` if there are 60", MessageEdges::sendWithSixty);
        edges.of("there is no way", MessageEdges::sendWithoutAWay);
        edges.of("or the purse of the sender has not enough", MessageEdges::sendWithoutEnough);
        edges.under("Promise 9: cost");
        edges.of("Returns what a message would cost now.", MessageEdges::costNow);
        edges.of("Returns the prices, together", MessageEdges::costTogether);
        edges.of("NONE without a way", MessageEdges::costWithoutAWay);
        edges.of("Throws `IndexOutOfBoundsException` if there is no such node, of either",
            due -> due.noSuchOfEither("cost", 3, MessageEdges::ring, (x, node, to) -> x.cost(node, to)));
        edges.of("Throws `IllegalArgumentException` if both are the same",
            due -> due.bothTheSame("cost", 3, MessageEdges::ring, (x, node, to) -> x.cost(node, to)));
    }

    private static void losing(Edges edges) {
        edges.under("Promise 10: lose");
        edges.of("how many of the next messages that come to a node to be relayed it loses", MessageEdges::losesTheNext);
        edges.of("in place of what was told", MessageEdges::inPlace);
        edges.of("`messages`: 0 to 9", MessageEdges::howManyToLose);
        edges.of("Returns how many were told yet.", MessageEdges::toldYet);
        edges.of("Throws `IndexOutOfBoundsException` if there is no such node",
            due -> due.range("lose(node, 1)", 0, 2, NO_SUCH, MessageEdges::ring, (x, node) -> x.lose(node, 1)));
        edges.of("Throws `IllegalArgumentException` if messages is out of range",
            due -> due.range("lose(1, messages)", 0, 9, OUT, MessageEdges::ring, (x, told) -> x.lose(1, told)));
    }

    private static void asking(Edges edges) {
        edges.under("Promise 11: message");
        edges.of("Tells of a message.", MessageEdges::tellsOfEach);
        edges.of("0 how it is", MessageEdges::howItIs);
        edges.of("1 the node at which it is, or was last", MessageEdges::whereItIs);
        edges.of("2 what was paid for it", MessageEdges::whatWasPaid);
        edges.of("3 what went back to the sender", MessageEdges::whatWentBack);
        edges.of("4 how many receipts there are for it", MessageEdges::howManyReceipts);
        edges.of("5 what the sender had from a stake", MessageEdges::whatCameFromAStake);
        edges.of("Throws `IndexOutOfBoundsException` if there is no such message", MessageEdges::noSuchMessage);
        edges.of("Throws `IllegalArgumentException` if what is out of range",
            due -> due.range("message(1, what)", 0, 5, OUT, MessageEdges::twoSent, (x, what) -> x.message(1, what)));
        edges.under("Promise 12: way");
        edges.of("Returns a node of the way of a message.", MessageEdges::nodesOfWays);
        edges.of("`place`: 0 for the sender", MessageEdges::placeOfTheSender);
        edges.of("NONE behind the last one", MessageEdges::behindTheLast);
        edges.of("Throws `IndexOutOfBoundsException` if there is no such message", MessageEdges::wayOfNoMessage);
        edges.of("or place is below 0", MessageEdges::placeBelowZero);
    }

    // ---- networks

    /** Three nodes, each linked to both others. */
    private static RelayStakes ring() {
        return Nets.link(Nets.nodes(3), 0, 1, 1, 2, 2, 0);
    }

    /** 0 - 1 - 2 - 3: the sender has 100, and pays 9 to node 1, with a stake of 40, and 7 to node 2, with one of 30. */
    private static RelayStakes line() {
        return Nets.line(100, 40, 9, 30, 7);
    }

    private static RelayStakes sent() {
        RelayStakes x = line();
        x.send(0, 3);
        return x;
    }

    private static RelayStakes twoSent() {
        RelayStakes x = sent();
        x.send(3, 2);
        return x;
    }

    /** From 0 to 1 over 2, 3, 4 .., one of them alone, at these prices, with stakes of 999. */
    private static RelayStakes fork(int... prices) {
        RelayStakes x = new RelayStakes();
        x.node(9999, 0, 0);
        x.node(0, 0, 0);
        for (int price : prices) {
            int relay = x.node(0, 999, price);
            Nets.link(x, 0, relay, relay, 1);
        }
        return x;
    }

    private static RelayStakes sixty() {
        RelayStakes x = line();
        for (int i = 0; i < 60; i++) {
            x.send(2, 3);
        }
        return x;
    }

    private static void way(Due due, String when, RelayStakes x, int message, int... want) {
        for (int place = 0; place < want.length; place++) {
            due.is(when + ": way(" + message + ", " + place + ")", x.way(message, place), want[place]);
        }
        due.is(when + ": way(" + message + "), behind the last", x.way(message, want.length), -1);
    }

    // ---- ways

    private static void theEnd(Due due) {
        RelayStakes x = line();
        x.price(3, 50);
        due.is("cost(0, 3), the end JOINED, with a price of 50 and no stake", x.cost(0, 3), 16);
        x.leave(3);
        due.is("cost(0, 3), the end LEAVING", x.cost(0, 3), 16);
        due.is("send(0, 3), the end LEAVING", x.send(0, 3), 0);
        due.is("nodeIs(0, 0)", x.nodeIs(0, 0), 84);
        x.pass(3);
        due.is("message(0, 0), the end LEAVING", x.message(0, 0), DELIVERED);
        x.pass(11);
        due.is("cost(0, 3) in the tick 14", x.cost(0, 3), 16);
        x.pass(1);
        due.is("cost(0, 3), the end GONE", x.cost(0, 3), 16);
        due.is("send(0, 3), the end GONE", x.send(0, 3), 1);
        x.pass(3);
        due.is("message(1, 0), the end GONE", x.message(1, 0), DELIVERED);
        due.is("nodeIs(3, 0), the end has nothing by that", x.nodeIs(3, 0), 0);
        RelayStakes next = Nets.link(Nets.gone(), 0, 1);
        due.is("cost(1, 0), next to one that is GONE", next.cost(1, 0), 0);
        due.is("cost(0, 1), from one that is GONE", next.cost(0, 1), 0);
    }

    private static void thoseThatAreJoined(Due due) {
        RelayStakes x = line();
        due.is("cost(0, 3), JOINED", x.cost(0, 3), 16);
        x.leave(1);
        due.is("cost(0, 3), LEAVING", x.cost(0, 3), -1);
        due.is("cost(0, 1), to it", x.cost(0, 1), 0);
        x.join(1, 0);
        due.is("cost(0, 3), joined again", x.cost(0, 3), 16);
        x.leave(1);
        x.pass(14);
        due.is("cost(0, 3) in the tick 14", x.cost(0, 3), -1);
        x.pass(1);
        due.is("cost(0, 3), GONE", x.cost(0, 3), -1);
        x.price(1, 0);
        due.is("cost(0, 3), GONE, with a price of 0", x.cost(0, 3), -1);
        x.join(1, 1);
        due.is("cost(0, 3), joined with a stake of 1, with a price of 0", x.cost(0, 3), 7);
        RelayStakes y = fork(10, 11);
        y.leave(2);
        due.is("cost(0, 1), with another that is JOINED", y.cost(0, 1), 11);
    }

    private static void twiceTheirPrice(Due due) {
        for (int price : new int[] {1, 5, 49, 50}) {
            int[] stakes = {0, price, 2 * price - 1, 2 * price, 2 * price + 1};
            for (int stake : stakes) {
                RelayStakes x = Nets.line(100, stake, price);
                due.is("cost with a price of " + price + " and a stake of " + stake, x.cost(0, 2), stake >= 2 * price ? price : -1);
            }
        }
        due.is("cost with a price of 0 and a stake of 0", Nets.line(0, 0, 0).cost(0, 2), 0);
        RelayStakes x = Nets.line(100, 19, 10);
        due.is("cost with a stake of 19 and a price of 10", x.cost(0, 2), -1);
        x.price(1, 9);
        due.is("cost with a stake of 19 and a price of 9", x.cost(0, 2), 9);
        RelayStakes two = Nets.line(100, 10, 5, 9, 5);
        due.is("cost with the second one's stake too small", two.cost(0, 3), -1);
        due.is("cost to the one whose stake is too small", two.cost(0, 2), 5);
        RelayStakes put = new RelayStakes();
        put.node(0, 0, 0);
        put.node(2, 9, 5);
        put.node(0, 0, 0);
        Nets.link(put, 0, 1, 1, 2);
        due.is("cost with a stake of 9", put.cost(0, 2), -1);
        put.put(1, 1);
        due.is("cost with a stake of 10", put.cost(0, 2), 5);
    }

    /** Node 2 has this trust, and a price of 10; node 3 has a trust of 50, and the other price. */
    private static RelayStakes trusted(int up, int down, int otherPrice) {
        RelayStakes x = fork(0);
        for (int i = 0; i < up; i++) {
            x.send(0, 1);
        }
        Nets.pass(x, 2);
        x.lose(2, down);
        for (int i = 0; i < down; i++) {
            x.send(0, 1);
        }
        x.pass(1);
        x.price(2, 10);
        x.node(0, 999, otherPrice);
        return Nets.link(x, 0, 3, 3, 1);
    }

    private static void aTenthOfTheTrust(Due due) {
        int[][] upDownTrustTenth = {
            {0, 3, 0, 10}, {9, 3, 0, 10}, {10, 3, 0, 10}, {11, 3, 1, 9}, {19, 3, 9, 9}, {20, 3, 10, 9}, {21, 3, 11, 8},
            {9, 2, 19, 8}, {10, 2, 20, 8}, {11, 2, 21, 7}, {0, 1, 30, 7}, {1, 1, 31, 6}, {19, 1, 49, 5},
            {0, 0, 50, 5}, {1, 0, 51, 4}, {9, 0, 59, 4}, {10, 0, 60, 4}, {11, 0, 61, 3}, {39, 0, 89, 1}, {40, 0, 90, 1},
            {41, 0, 91, 0}, {49, 0, 99, 0}, {50, 0, 100, 0}, {51, 0, 100, 0}};
        for (int[] one : upDownTrustTenth) {
            int even = 10 + one[3] - 5;
            RelayStakes x = trusted(one[0], one[1], even);
            due.is("nodeIs(2, 2)", x.nodeIs(2, 2), one[2]);
            due.is("cost with a trust of " + one[2] + ", as light as another", x.cost(0, 1), 10);
            x.price(3, even + 1);
            due.is("cost with a trust of " + one[2] + ", 1 lighter", x.cost(0, 1), 10);
            x.price(3, even - 1);
            due.is("cost with a trust of " + one[2] + ", 1 heavier", x.cost(0, 1), even - 1);
        }
    }

    /** From 0 to 1 over 2 alone, or over 3 and 4, or over 5, 6 and 7; each with a trust of 50. */
    private static RelayStakes oneTwoThree(int... prices) {
        RelayStakes x = new RelayStakes();
        x.node(9999, 0, 0);
        x.node(0, 0, 0);
        for (int price : prices) {
            x.node(0, 999, price);
        }
        return Nets.link(x, 0, 2, 2, 1, 0, 3, 3, 4, 4, 1, 0, 5, 5, 6, 6, 7, 7, 1);
    }

    /** The tenth is of each, not of them together: 39 lacking thrice are 3 and 3 and 3, not 11. */
    private static void eachAndATenth(Due due) {
        due.is("cost: 15 and 5 against 10 and 10", oneTwoThree(15, 5, 5, 50, 50, 50).cost(0, 1), 15);
        due.is("cost: 16 and 5 against 10 and 10", oneTwoThree(16, 5, 5, 50, 50, 50).cost(0, 1), 10);
        due.is("cost: 20 and 5 against 5 and 5 and 15", oneTwoThree(20, 50, 50, 0, 0, 10).cost(0, 1), 20);
        due.is("cost: 21 and 5 against 5 and 5 and 15", oneTwoThree(21, 50, 50, 0, 0, 10).cost(0, 1), 10);
        RelayStakes x = Nets.line(0, 0, 0, 0, 0, 0, 0);
        for (int i = 0; i < 11; i++) {
            x.send(0, 4);
        }
        x.pass(4);
        x.node(0, 999, 5);
        Nets.link(x, 0, 5, 5, 4);
        due.is("nodeIs(3, 2)", x.nodeIs(3, 2), 61);
        due.is("cost: 5 and 5 against 3 and 3 and 3", x.cost(0, 4), 0);
        x.price(5, 4);
        due.is("cost: 4 and 5 against 3 and 3 and 3", x.cost(0, 4), 4);
    }

    private static void theLeastTogether(Due due) {
        due.is("cost: 10 and 5 against 3 and 3 and 10", oneTwoThree(10, 3, 3, 50, 50, 50).cost(0, 1), 10);
        due.is("cost: 11 and 5 against 3 and 3 and 10", oneTwoThree(11, 3, 3, 50, 50, 50).cost(0, 1), 11);
        due.is("cost: 12 and 5 against 3 and 3 and 10", oneTwoThree(12, 3, 3, 50, 50, 50).cost(0, 1), 6);
        due.is("cost: 0 and 14 against 50", oneTwoThree(50, 0, 14, 50, 50, 50).cost(0, 1), 14);
        due.is("cost: 14 and 0 against 50", oneTwoThree(50, 14, 0, 50, 50, 50).cost(0, 1), 14);
        due.is("cost: 0, 0 and 9 and 15 against 0 and 14 and 10", oneTwoThree(50, 0, 14, 0, 0, 9).cost(0, 1), 14);
        due.is("cost: 0, 0 and 8 and 15 against 0 and 14 and 10", oneTwoThree(50, 0, 14, 0, 0, 8).cost(0, 1), 8);
        due.is("cost: 6 against 7, the higher one", fork(7, 6).cost(0, 1), 6);
        due.is("cost: 6 against 7, the lower one", fork(6, 7).cost(0, 1), 6);
        RelayStakes next = Nets.link(fork(0), 0, 1);
        next.send(0, 1);
        way(due, "next to it, against a price of 0 and 5 for trust", next, 0, 0, 1);
        RelayStakes most = Nets.line(500, 100, 50, 100, 50, 100, 50, 100, 50, 100, 50, 100, 50, 100, 50, 100, 50, 100, 50, 100, 50);
        due.is("cost over 10, at 50 each", most.cost(0, 11), 500);
    }

    /** From 0 to 1 over 2, 3 and 4, or over 5 and 6, or over 7 alone; each with a trust of 50. */
    private static RelayStakes threeTwoOne(int... prices) {
        RelayStakes x = new RelayStakes();
        x.node(9999, 0, 0);
        x.node(0, 0, 0);
        for (int price : prices) {
            x.node(0, 999, price);
        }
        return Nets.link(x, 0, 2, 2, 3, 3, 4, 4, 1, 0, 5, 5, 6, 6, 1, 0, 7, 7, 1);
    }

    private static void theFewestHops(Due due) {
        RelayStakes x = threeTwoOne(0, 0, 5, 5, 5, 15);
        x.send(0, 1);
        way(due, "as light over one, two and three", x, 0, 0, 7, 1);
        x.price(7, 14);
        x.send(0, 1);
        way(due, "lighter over one", x, 1, 0, 7, 1);
        x.price(7, 16);
        x.send(0, 1);
        way(due, "heavier over one", x, 2, 0, 5, 6, 1);
        x.price(4, 4);
        x.send(0, 1);
        way(due, "lighter over three", x, 3, 0, 2, 3, 4, 1);
        x.price(4, 6);
        x.send(0, 1);
        way(due, "heavier over three", x, 4, 0, 5, 6, 1);
        RelayStakes light = Nets.line(0, 0, 0, 0, 0);
        for (int i = 0; i < 41; i++) {
            light.send(0, 3);
        }
        light.pass(3);
        Nets.link(light, 0, 2);
        light.send(0, 3);
        way(due, "over trust of 91, which weighs nothing", light, 41, 0, 2, 3);
        Nets.link(light, 0, 3);
        light.send(0, 3);
        way(due, "next to it, against what weighs nothing", light, 42, 0, 3);
    }

    private static void theLowestFirst(Due due) {
        RelayStakes x = fork(7, 7, 7, 7, 7, 7, 7, 7, 7, 7);
        for (int lowest = 2; lowest < 12; lowest++) {
            int message = x.send(0, 1);
            way(due, "over the lowest that is left", x, message, 0, lowest, 1);
            x.link(0, lowest, false);
        }
        RelayStakes y = new RelayStakes();
        for (int i = 0; i < 6; i++) {
            y.node(100, 999, 7);
        }
        Nets.link(y, 0, 2, 2, 5, 5, 1, 0, 3, 3, 4, 4, 1);
        y.send(0, 1);
        way(due, "the first node behind the sender, not the second", y, 0, 0, 2, 5, 1);
        y.send(1, 0);
        way(due, "the first node behind the other sender", y, 1, 1, 4, 3, 0);
        y.price(5, 8);
        y.send(0, 1);
        way(due, "over the lowest, 1 heavier", y, 2, 0, 3, 4, 1);
        y.price(4, 8);
        y.send(0, 1);
        way(due, "over the lowest, as heavy again", y, 3, 0, 2, 5, 1);
    }

    /** From 0 to 1 over one of 2, 5, one of 3, 6 and one of 4, 7. */
    private static RelayStakes layers() {
        RelayStakes x = new RelayStakes();
        for (int i = 0; i < 8; i++) {
            x.node(1000, 999, 1);
        }
        return Nets.link(x, 0, 2, 0, 5, 2, 3, 2, 6, 5, 3, 5, 6, 3, 4, 3, 7, 6, 4, 6, 7, 4, 1, 7, 1);
    }

    private static void theLowestThen(Due due) {
        RelayStakes x = layers();
        int[][] partedAndWay = {{0, 1, 2, 3, 4}, {3, 4, 2, 3, 7}, {3, 7, 2, 6, 4}, {6, 4, 2, 6, 7}, {0, 2, 5, 6, 7}};
        for (int i = 0; i < partedAndWay.length; i++) {
            int[] one = partedAndWay[i];
            x.link(one[0], one[1], false);
            x.send(0, 1);
            way(due, "parted " + one[0] + ", " + one[1], x, i, 0, one[2], one[3], one[4], 1);
        }
        RelayStakes y = layers();
        y.send(1, 0);
        way(due, "from the other side", y, 0, 1, 4, 3, 2, 0);
        y.link(4, 3, false);
        y.send(1, 0);
        way(due, "from the other side, parted 4, 3", y, 1, 1, 4, 6, 2, 0);
        y.link(6, 2, false);
        y.send(1, 0);
        way(due, "from the other side, parted 6, 2", y, 2, 1, 4, 6, 5, 0);
    }

    private static void theSenderPays(Due due) {
        RelayStakes x = Nets.line(33, 40, 9, 30, 7);
        x.send(0, 3);
        due.is("nodeIs(0, 0), one sent", x.nodeIs(0, 0), 17);
        due.is("message(0, 2)", x.message(0, 2), 16);
        due.is("money(), one sent", x.money(), 103);
        x.send(0, 3);
        due.is("nodeIs(0, 0), two sent", x.nodeIs(0, 0), 1);
        due.is("nodeIs(1, 0), two sent", x.nodeIs(1, 0), 0);
        due.is("nodeIs(2, 0), two sent", x.nodeIs(2, 0), 0);
        due.is("money(), two sent", x.money(), 103);
        due.same("send(0, 3), with 1 left", Answer.of(() -> x.send(0, 3)), "throws.IllegalStateException");
        due.is("send(0, 1), for nothing", x.send(0, 1), 2);
        due.is("nodeIs(0, 0), three sent", x.nodeIs(0, 0), 1);
        due.is("nodeIs(0, 1), its stake", x.nodeIs(0, 1), 0);
        RelayStakes staked = Nets.nodes(3);
        Nets.link(staked, 0, 1, 1, 2);
        staked.send(0, 2);
        due.is("nodeIs(0, 0), with a stake", staked.nodeIs(0, 0), 95);
        due.is("nodeIs(0, 1), with a stake", staked.nodeIs(0, 1), 20);
    }

    private static void pricesLater(Due due) {
        for (int later : new int[] {0, 8, 10, 50}) {
            RelayStakes x = sent();
            x.price(1, later);
            x.price(2, later);
            due.is("message(0, 2) with " + later + " later", x.message(0, 2), 16);
            x.pass(3);
            due.is("message(0, 0) with " + later + " later", x.message(0, 0), DELIVERED);
            due.is("nodeIs(1, 0) with " + later + " later", x.nodeIs(1, 0), 9);
            due.is("nodeIs(2, 0) with " + later + " later", x.nodeIs(2, 0), 7);
            due.is("paidAnew(2) with " + later + " later", x.paidAnew(2), 7);
            RelayStakes y = sent();
            y.lose(2, 1);
            y.pass(1);
            y.price(1, later);
            y.price(2, later);
            y.pass(1);
            due.is("message(0, 3), lost, with " + later + " later", y.message(0, 3), 7);
            due.is("message(0, 5), lost, with " + later + " later", y.message(0, 5), 9);
            due.is("nodeIs(1, 0), lost, with " + later + " later", y.nodeIs(1, 0), 9);
            due.is("paidAnew(1), lost, with " + later + " later", y.paidAnew(1), 9);
        }
    }

    private static void numbers(Due due) {
        RelayStakes x = line();
        for (int i = 0; i < 60; i++) {
            int message = i;
            due.same("message(" + i + ", 1) ahead of it", Answer.of(() -> x.message(message, 1)), "throws.IndexOutOfBoundsException");
            due.is("send " + i, i % 2 == 0 ? x.send(2, 3) : x.send(1, 2), i);
            due.is("message(" + i + ", 1)", x.message(i, 1), 2 - i % 2);
        }
        due.same("a 61st", Answer.of(() -> x.send(2, 3)), "throws.IllegalStateException");
        due.same("message(60, 1)", Answer.of(() -> x.message(60, 1)), "throws.IndexOutOfBoundsException");
        due.same("way(60, 0)", Answer.of(() -> x.way(60, 0)), "throws.IndexOutOfBoundsException");
    }

    // ---- going on

    private static RelayStakes twelve() {
        RelayStakes x = Nets.line(99, 2, 1, 2, 1, 2, 1, 2, 1, 2, 1, 2, 1, 2, 1, 2, 1, 2, 1, 2, 1);
        x.send(0, 11);
        return x;
    }

    private static void oneHop(Due due) {
        RelayStakes x = twelve();
        for (int tick = 0; tick <= 13; tick++) {
            due.is("message(0, 1) in the tick " + tick, x.message(0, 1), Math.min(tick, 11));
            due.is("message(0, 0) in the tick " + tick, x.message(0, 0), tick < 11 ? ON_WAY : DELIVERED);
            due.is("message(0, 1), " + tick + " ticks at once", Nets.pass(twelve(), tick).message(0, 1), Math.min(tick, 11));
            x.pass(1);
        }
        RelayStakes lost = sent();
        lost.lose(1, 1);
        for (int tick = 1; tick <= 3; tick++) {
            lost.pass(1);
            due.is("message(0, 1), lost", lost.message(0, 1), 1);
        }
    }

    private static void byNumbers(Due due) {
        RelayStakes x = Nets.line(100, 40, 9, 14, 7);
        x.send(0, 3);
        x.send(0, 3);
        x.lose(2, 2);
        x.pass(2);
        due.is("message(0, 5), first, of a stake of 14", x.message(0, 5), 9);
        due.is("message(1, 5), second, of a stake of 5", x.message(1, 5), 5);
        RelayStakes y = line();
        for (int i = 0; i < 3; i++) {
            y.send(0, 3);
        }
        y.lose(1, 1);
        y.pass(1);
        due.is("message(0, 0), one told to be lost", y.message(0, 0), LOST);
        due.is("message(1, 0), one told to be lost", y.message(1, 0), ON_WAY);
        due.is("message(2, 0), one told to be lost", y.message(2, 0), ON_WAY);
        RelayStakes z = line();
        z.send(0, 3);
        z.pass(1);
        z.price(2, 0);
        z.send(1, 3);
        z.lose(2, 1);
        z.pass(1);
        due.is("message(0, 0), which was sent first", z.message(0, 0), LOST);
        due.is("message(1, 0), which was sent next", z.message(1, 0), ON_WAY);
        RelayStakes back = line();
        back.price(2, 0);
        back.send(1, 3);
        back.send(0, 3);
        back.pass(1);
        back.lose(2, 1);
        due.is("message(0, 0), which came already", back.message(0, 0), ON_WAY);
        back.pass(1);
        due.is("message(1, 0), which comes now", back.message(1, 0), LOST);
    }

    private static void fromTheSender(Due due) {
        for (int tick : new int[] {0, 1, 5}) {
            RelayStakes x = Nets.pass(line(), tick);
            x.price(2, 0);
            x.send(0, 3);
            x.send(3, 1);
            due.is("message(0, 1), sent in the tick " + tick, x.message(0, 1), 0);
            due.is("message(1, 1), sent in the tick " + tick, x.message(1, 1), 3);
            x.pass(1);
            due.is("message(0, 1), one tick behind", x.message(0, 1), 1);
            due.is("message(1, 1), one tick behind", x.message(1, 1), 2);
        }
    }

    private static void lostThere(Due due) {
        for (int told = 0; told <= 3; told++) {
            for (int at = 0; at <= 3; at++) {
                RelayStakes y = sent();
                for (int tick = 0; tick < 3; tick++) {
                    if (tick == told) {
                        y.lose(at, 1);
                    }
                    y.pass(1);
                }
                boolean comes = at > told && at < 3 && told < 3;
                String when = "lose(" + at + ", 1) in the tick " + told;
                due.is(when + ": message(0, 0)", y.message(0, 0), comes ? LOST : DELIVERED);
                due.is(when + ": message(0, 1)", y.message(0, 1), comes ? at : 3);
                due.is(when + ": lose(" + at + ", 0)", y.lose(at, 0), comes || told == 3 ? 0 : 1);
            }
        }
    }

    private static void lossIsDone(Due due) {
        for (int told : new int[] {1, 2, 9}) {
            RelayStakes x = Nets.line(100, 40, 1);
            x.lose(1, told);
            for (int left = told - 1; left >= 0; left--) {
                x.send(0, 2);
                x.pass(1);
                due.is("message(" + (told - 1 - left) + ", 0)", x.message(told - 1 - left, 0), LOST);
                due.is("lose(1, " + left + ") after one more of " + told, x.lose(1, left), left);
            }
            x.send(0, 2);
            x.pass(1);
            due.is("message(" + told + ", 0), none told any more", x.message(told, 0), ON_WAY);
        }
    }

    private static void receipts(Due due) {
        RelayStakes x = sent();
        int[][] want = {{0, 0, 0, 0, 0}, {1, 0, 1, 0, 0}, {2, 0, 1, 1, 0}, {2, 0, 1, 1, 0}, {2, 0, 1, 1, 0}};
        for (int tick = 0; tick < want.length; tick++) {
            due.is("message(0, 4) in the tick " + tick, x.message(0, 4), want[tick][0]);
            for (int node = 0; node < 4; node++) {
                due.is("nodeIs(" + node + ", 5) in the tick " + tick, x.nodeIs(node, 5), want[tick][node + 1]);
            }
            x.pass(1);
        }
        x.send(0, 3);
        x.lose(2, 1);
        x.pass(2);
        due.is("message(1, 4), lost at 2", x.message(1, 4), 1);
        due.is("nodeIs(1, 5), with two", x.nodeIs(1, 5), 2);
        due.is("nodeIs(2, 5), who lost the second", x.nodeIs(2, 5), 1);
    }

    private static void joinedOrNot(Due due) {
        for (int left = 0; left <= 2; left++) {
            for (int node = 0; node <= 3; node++) {
                RelayStakes x = sent();
                Nets.pass(x, left);
                x.leave(node);
                Nets.pass(x, 3 - left);
                String when = "leave(" + node + ") in the tick " + left;
                due.is(when + ": message(0, 0)", x.message(0, 0), DELIVERED);
                due.is(when + ": message(0, 4)", x.message(0, 4), 2);
                due.is(when + ": nodeIs(1, 0)", x.nodeIs(1, 0), 9);
                due.is(when + ": nodeIs(2, 0)", x.nodeIs(2, 0), 7);
                due.is(when + ": nodeIs(2, 2)", x.nodeIs(2, 2), 51);
            }
        }
        RelayStakes lost = sent();
        lost.leave(1);
        lost.leave(2);
        lost.lose(2, 1);
        lost.pass(2);
        due.is("message(0, 0), lost by one that is LEAVING", lost.message(0, 0), LOST);
        due.is("nodeIs(1, 0), LEAVING", lost.nodeIs(1, 0), 9);
        due.is("nodeIs(2, 1), LEAVING", lost.nodeIs(2, 1), 21);
        due.is("nodeIs(2, 2), LEAVING", lost.nodeIs(2, 2), 30);
    }

    private static void delivered(Due due) {
        RelayStakes x = line();
        x.send(0, 1);
        x.send(0, 2);
        x.send(0, 3);
        for (int tick = 0; tick <= 4; tick++) {
            for (int message = 0; message < 3; message++) {
                String call = "message(" + message + ", 0) in the tick " + tick;
                due.is(call, x.message(message, 0), tick > message ? DELIVERED : ON_WAY);
            }
            x.pass(1);
        }
        RelayStakes told = sent();
        told.lose(3, 9);
        told.lose(0, 9);
        told.pass(3);
        due.is("message(0, 0), with losses told for its ends", told.message(0, 0), DELIVERED);
        due.is("lose(3, 0)", told.lose(3, 0), 9);
        due.is("lose(0, 0)", told.lose(0, 0), 9);
    }

    private static void priceAndTrust(Due due) {
        RelayStakes x = Nets.line(500, 100, 50, 0, 0, 2, 1);
        x.send(0, 4);
        x.pass(3);
        for (int node = 0; node < 5; node++) {
            due.is("nodeIs(" + node + ", 2), not yet at its end", x.nodeIs(node, 2), 50);
            due.is("nodeIs(" + node + ", 4), not yet at its end", x.nodeIs(node, 4), 0);
        }
        x.pass(1);
        int[] purses = {449, 50, 0, 1, 0};
        int[] trust = {50, 51, 51, 51, 50};
        for (int node = 0; node < 5; node++) {
            due.is("nodeIs(" + node + ", 0)", x.nodeIs(node, 0), purses[node]);
            due.is("nodeIs(" + node + ", 2)", x.nodeIs(node, 2), trust[node]);
        }
        RelayStakes most = Nets.line(60, 2, 1);
        for (int i = 0; i < 49; i++) {
            most.send(0, 2);
        }
        most.pass(2);
        for (int i = 0; i < 3; i++) {
            due.is("nodeIs(1, 2) after " + (49 + i), most.nodeIs(1, 2), Math.min(100, 99 + i));
            due.is("nodeIs(1, 0) after " + (49 + i), most.nodeIs(1, 0), 49 + i);
            most.send(0, 2);
            most.pass(2);
        }
    }

    /** Three relay, for 9, 7 and 5; it is lost at the node with this number. */
    private static RelayStakes lostAt(int node) {
        RelayStakes x = Nets.line(100, 40, 9, 30, 7, 60, 5);
        x.send(0, 4);
        x.lose(node, 1);
        return Nets.pass(x, node);
    }

    private static void pricesOfALostOne(Due due) {
        int[] price = {0, 9, 7, 5, 0};
        for (int lost = 1; lost <= 3; lost++) {
            RelayStakes x = lostAt(lost);
            for (int node = 1; node <= 4; node++) {
                due.is("nodeIs(" + node + ", 0), lost at " + lost, x.nodeIs(node, 0), node < lost ? price[node] : 0);
                due.is("nodeIs(" + node + ", 4), lost at " + lost, x.nodeIs(node, 4), node < lost ? price[node] : 0);
                due.is("nodeIs(" + node + ", 2), lost at " + lost, x.nodeIs(node, 2), node == lost ? 30 : 50);
            }
            due.is("nodeIs(0, 2), lost at " + lost, x.nodeIs(0, 2), 50);
            x.pass(5);
            due.is("nodeIs(1, 0), lost at " + lost + ", later", x.nodeIs(1, 0), lost > 1 ? 9 : 0);
        }
    }

    private static void theRest(Due due) {
        int[] rest = {0, 21, 12, 5};
        int[] stake = {0, 0, 9, 16};
        for (int lost = 1; lost <= 3; lost++) {
            RelayStakes x = lostAt(lost);
            due.is("message(0, 3), lost at " + lost, x.message(0, 3), rest[lost]);
            due.is("nodeIs(0, 0), lost at " + lost, x.nodeIs(0, 0), 79 + rest[lost] + stake[lost]);
            due.is("money(), lost at " + lost, x.money(), 230);
        }
        due.is("message(0, 3), not lost", lostAt(4).message(0, 3), 0);
        due.is("nodeIs(0, 0), not lost", lostAt(4).nodeIs(0, 0), 79);
        RelayStakes free = Nets.line(5, 0, 0);
        free.send(0, 2);
        free.lose(1, 1);
        free.pass(1);
        due.is("message(0, 3), for nothing", free.message(0, 3), 0);
        due.is("nodeIs(0, 0), for nothing", free.nodeIs(0, 0), 5);
    }

    private static void fromTheStake(Due due) {
        int[][] stakeAndPrice = {{0, 0}, {1, 0}, {8, 4}, {9, 4}, {10, 4}, {999, 4}};
        for (int[] one : stakeAndPrice) {
            RelayStakes x = Nets.line(100, 40, 9, one[0], one[1]);
            x.send(0, 3);
            x.lose(2, 1);
            x.pass(2);
            int had = Math.min(9, one[0]);
            due.is("message(0, 5), a stake of " + one[0], x.message(0, 5), had);
            due.is("nodeIs(2, 1), a stake of " + one[0], x.nodeIs(2, 1), one[0] - had);
            due.is("nodeIs(0, 0), a stake of " + one[0], x.nodeIs(0, 0), 91 + had);
            due.is("nodeIs(1, 1), a stake of " + one[0], x.nodeIs(1, 1), 40);
        }
        RelayStakes first = lostAt(1);
        due.is("message(0, 5), none has a receipt", first.message(0, 5), 0);
        due.is("nodeIs(1, 1), none has a receipt", first.nodeIs(1, 1), 40);
        due.is("message(0, 5), two have receipts", lostAt(3).message(0, 5), 16);
        due.is("nodeIs(3, 1), two have receipts", lostAt(3).nodeIs(3, 1), 44);
    }

    private static void twentyLessTrust(Due due) {
        int[][] upDownTrust = {{0, 0, 50}, {50, 0, 100}, {49, 0, 99}, {9, 2, 19}, {10, 2, 20}, {11, 2, 21}, {11, 3, 1}, {0, 3, 0}};
        for (int[] one : upDownTrust) {
            RelayStakes x = trusted(one[0], one[1], 50);
            int before = one[2];
            due.is("nodeIs(2, 2) ahead of it", x.nodeIs(2, 2), before);
            x.price(2, 0);
            x.link(0, 3, false);
            x.lose(2, 1);
            int message = x.send(0, 1);
            x.pass(1);
            due.is("message(" + message + ", 0)", x.message(message, 0), LOST);
            due.is("nodeIs(2, 2) from " + before, x.nodeIs(2, 2), Math.max(0, before - 20));
            due.is("nodeIs(3, 2), another", x.nodeIs(3, 2), 50);
            due.is("nodeIs(0, 2), the sender", x.nodeIs(0, 2), 50);
        }
    }

    // ---- promise 8

    private static void sends(Due due) {
        RelayStakes x = line();
        x.send(0, 3);
        way(due, "send(0, 3)", x, 0, 0, 1, 2, 3);
        int[] want = {ON_WAY, 0, 16, 0, 0, 0};
        for (int what = 0; what < want.length; what++) {
            due.is("message(0, " + what + ")", x.message(0, what), want[what]);
        }
    }

    private static void numberOfAMessage(Due due) {
        RelayStakes x = line();
        due.is("send(0, 3)", x.send(0, 3), 0);
        due.is("send(3, 2)", x.send(3, 2), 1);
        due.same("send(3, 0), with an empty purse", Answer.of(() -> x.send(3, 0)), "throws.IllegalStateException");
        due.same("send(3, 3)", Answer.of(() -> x.send(3, 3)), "throws.IllegalArgumentException");
        due.is("send(3, 2), after two that were refused", x.send(3, 2), 2);
        x.pass(5);
        due.is("send(0, 1), when all are delivered", x.send(0, 1), 3);
    }

    private static void sendWithSixty(Due due) {
        RelayStakes x = line();
        for (int i = 0; i < 58; i++) {
            x.send(2, 3);
        }
        due.is("send(0, 3) with 58", x.send(0, 3), 58);
        due.is("send(0, 3) with 59", x.send(0, 3), 59);
        for (int tick = 0; tick < 4; tick++) {
            due.same("send(0, 3) with 60", Answer.of(() -> x.send(0, 3)), "throws.IllegalStateException");
            due.same("send(2, 3) with 60", Answer.of(() -> x.send(2, 3)), "throws.IllegalStateException");
            due.is("nodeIs(0, 0) with 60", x.nodeIs(0, 0), 68);
            due.is("money() with 60", x.money(), 170);
            due.is("cost(0, 3) with 60", x.cost(0, 3), 16);
            x.pass(1);
        }
        due.is("message(59, 0)", x.message(59, 0), DELIVERED);
        due.same("message(60, 0)", Answer.of(() -> x.message(60, 0)), "throws.IndexOutOfBoundsException");
    }

    private static void sendWithoutAWay(Due due) {
        due.fails("send(0, 1), not linked", STATE, () -> Nets.nodes(2), x -> x.send(0, 1));
        due.answers("send(0, 1), linked", 0, () -> Nets.link(Nets.nodes(2), 0, 1), x -> x.send(0, 1));
        due.fails("send(0, 2), over one with too small a stake", STATE, () -> Nets.line(100, 9, 5), x -> x.send(0, 2));
        due.answers("send(0, 2), over one with just enough", 0, () -> Nets.line(100, 10, 5), x -> x.send(0, 2));
        due.fails("send(0, 3), parted", STATE, MessageEdges::parted, x -> x.send(0, 3));
        due.fails("send(3, 0), parted", STATE, MessageEdges::parted, x -> x.send(3, 0));
        due.answers("send(0, 2), on this side", 0, MessageEdges::parted, x -> x.send(0, 2));
    }

    private static RelayStakes parted() {
        RelayStakes x = line();
        x.link(2, 3, false);
        return x;
    }

    private static void sendWithoutEnough(Due due) {
        due.fails("send(0, 3) with 0", STATE, () -> Nets.line(0, 40, 9, 30, 7), x -> x.send(0, 3));
        due.fails("send(0, 3) with 15", STATE, () -> Nets.line(15, 40, 9, 30, 7), x -> x.send(0, 3));
        due.answers("send(0, 3) with 16", 0, () -> Nets.line(16, 40, 9, 30, 7), x -> x.send(0, 3));
        due.answers("send(0, 3) with 17", 0, () -> Nets.line(17, 40, 9, 30, 7), x -> x.send(0, 3));
        due.answers("send(0, 1) with 0, for nothing", 0, () -> Nets.line(0, 40, 9, 30, 7), x -> x.send(0, 1));
        RelayStakes x = Nets.line(16, 40, 9, 30, 7);
        x.put(0, 1);
        due.same("send(0, 3) with 15, and a stake", Answer.of(() -> x.send(0, 3)), "throws.IllegalStateException");
        RelayStakes y = Nets.line(16, 40, 9, 30, 7);
        y.send(0, 3);
        due.is("nodeIs(0, 0), all of it paid", y.nodeIs(0, 0), 0);
        due.same("send(0, 3) anew", Answer.of(() -> y.send(0, 3)), "throws.IllegalStateException");
    }

    // ---- promise 9

    private static void costNow(Due due) {
        RelayStakes x = line();
        due.is("cost(0, 3)", x.cost(0, 3), 16);
        due.is("cost(0, 3) anew", x.cost(0, 3), 16);
        due.is("nodeIs(0, 0), who asked", x.nodeIs(0, 0), 100);
        due.same("message(0, 0), when it was only asked", Answer.of(() -> x.message(0, 0)), "throws.IndexOutOfBoundsException");
        due.is("cost(3, 0), with an empty purse", x.cost(3, 0), 16);
        x.send(0, 3);
        x.price(1, 10);
        due.is("cost(0, 3), at another price", x.cost(0, 3), 17);
        due.is("message(0, 2), as it was sent", x.message(0, 2), 16);
        x.price(1, 20);
        due.is("cost(0, 3), at half the stake", x.cost(0, 3), 27);
        x.price(1, 21);
        due.is("cost(0, 3), above half the stake", x.cost(0, 3), -1);
    }

    private static void costTogether(Due due) {
        RelayStakes x = line();
        due.is("cost(0, 1), over none", x.cost(0, 1), 0);
        due.is("cost(0, 2), over one", x.cost(0, 2), 9);
        due.is("cost(0, 3), over two", x.cost(0, 3), 16);
        due.is("cost(3, 0), the other way round", x.cost(3, 0), 16);
        due.is("cost(1, 3)", x.cost(1, 3), 7);
        due.is("cost(0, 11), over ten", twelve().cost(0, 11), 10);
        due.is("cost(0, 2), over one with a price of 0", Nets.line(0, 0, 0).cost(0, 2), 0);
    }

    private static void costWithoutAWay(Due due) {
        RelayStakes x = Nets.nodes(3);
        due.is("cost(0, 1), not linked", x.cost(0, 1), -1);
        Nets.link(x, 0, 1);
        due.is("cost(0, 1), linked", x.cost(0, 1), 0);
        due.is("cost(0, 2), not linked", x.cost(0, 2), -1);
        due.is("cost(2, 1), not linked", x.cost(2, 1), -1);
        due.is("cost(0, 3), parted", parted().cost(0, 3), -1);
        due.is("cost(3, 0), parted", parted().cost(3, 0), -1);
    }

    // ---- promise 10

    private static void losesTheNext(Due due) {
        for (int told : new int[] {0, 1, 2, 8, 9}) {
            RelayStakes x = Nets.line(100, 10, 1);
            x.lose(1, told);
            for (int i = 0; i < 11; i++) {
                x.send(0, 2);
            }
            x.send(0, 1);
            x.send(1, 2);
            x.pass(2);
            for (int message = 0; message < 11; message++) {
                due.is("message(" + message + ", 0) with " + told, x.message(message, 0), message < told ? LOST : DELIVERED);
            }
            due.is("message(11, 0), to it", x.message(11, 0), DELIVERED);
            due.is("message(12, 0), from it", x.message(12, 0), DELIVERED);
        }
        RelayStakes ends = line();
        ends.lose(1, 2);
        ends.send(0, 1);
        ends.send(1, 0);
        ends.pass(1);
        due.is("lose(1, 2), after two that it does not relay", ends.lose(1, 2), 2);
    }

    private static void inPlace(Due due) {
        RelayStakes x = Nets.line(100, 10, 1);
        x.lose(1, 3);
        x.lose(1, 1);
        x.send(0, 2);
        x.send(0, 2);
        x.pass(1);
        due.is("message(0, 0), 1 in place of 3", x.message(0, 0), LOST);
        due.is("message(1, 0), 1 in place of 3", x.message(1, 0), ON_WAY);
        x.lose(1, 9);
        x.lose(1, 0);
        x.send(0, 2);
        x.pass(1);
        due.is("message(2, 0), 0 in place of 9", x.message(2, 0), ON_WAY);
        x.lose(1, 1);
        x.lose(1, 2);
        due.is("lose(1, 0), 2 in place of 1", x.lose(1, 0), 2);
    }

    private static void howManyToLose(Due due) {
        due.range("lose(0, messages)", 0, 9, OUT, () -> Nets.nodes(1), (x, told) -> x.lose(0, told));
        for (int told : new int[] {0, 1, 8, 9}) {
            RelayStakes x = Nets.nodes(1);
            x.lose(0, told);
            due.is("lose(0, 0) after " + told, x.lose(0, 0), told);
        }
        due.answers("lose(0, 9), GONE", 0, Nets::gone, x -> x.lose(0, 9));
    }

    private static void toldYet(Due due) {
        RelayStakes x = Nets.line(100, 10, 1);
        due.is("lose(1, 9) at first", x.lose(1, 9), 0);
        due.is("lose(1, 2)", x.lose(1, 2), 9);
        x.send(0, 2);
        due.is("lose(1, 2), none came yet", x.lose(1, 2), 2);
        x.pass(1);
        due.is("lose(1, 1), one came", x.lose(1, 1), 1);
        x.send(0, 2);
        x.pass(1);
        due.is("lose(1, 5), all came", x.lose(1, 5), 0);
        due.is("lose(0, 5), another", x.lose(0, 5), 0);
        due.same("lose(1, 10)", Answer.of(() -> x.lose(1, 10)), "throws.IllegalArgumentException");
        due.is("lose(1, 0), after one that was refused", x.lose(1, 0), 5);
    }

    // ---- promises 11 and 12

    private static void tellsOfEach(Due due) {
        RelayStakes x = line();
        x.send(0, 3);
        x.send(3, 2);
        due.same("send(1, 3), with an empty purse", Answer.of(() -> x.send(1, 3)), "throws.IllegalStateException");
        x.lose(1, 1);
        x.pass(1);
        int[][] want = {{LOST, 1, 16, 16, 0, 0}, {DELIVERED, 2, 0, 0, 0, 0}};
        for (int message = 0; message < want.length; message++) {
            for (int what = 0; what <= 5; what++) {
                due.is("message(" + message + ", " + what + ")", x.message(message, what), want[message][what]);
            }
        }
        due.same("message(2, 0), which was refused", Answer.of(() -> x.message(2, 0)), "throws.IndexOutOfBoundsException");
    }

    private static void howItIs(Due due) {
        RelayStakes x = sent();
        int[] want = {ON_WAY, ON_WAY, ON_WAY, DELIVERED, DELIVERED};
        for (int tick = 0; tick < want.length; tick++) {
            due.is("message(0, 0) in the tick " + tick, x.message(0, 0), want[tick]);
            x.pass(1);
        }
        RelayStakes y = sent();
        y.lose(2, 1);
        int[] lost = {ON_WAY, ON_WAY, LOST, LOST, LOST};
        for (int tick = 0; tick < lost.length; tick++) {
            due.is("message(0, 0) in the tick " + tick + ", lost at 2", y.message(0, 0), lost[tick]);
            y.pass(1);
        }
    }

    private static void whereItIs(Due due) {
        RelayStakes x = Nets.line(100, 40, 9, 30, 7);
        x.send(3, 2);
        x.send(0, 3);
        int[] want = {0, 1, 2, 3, 3};
        for (int tick = 0; tick < want.length; tick++) {
            due.is("message(1, 1) in the tick " + tick, x.message(1, 1), want[tick]);
            due.is("message(0, 1) in the tick " + tick, x.message(0, 1), tick == 0 ? 3 : 2);
            x.pass(1);
        }
        for (int lost = 1; lost <= 3; lost++) {
            RelayStakes y = lostAt(lost);
            due.is("message(0, 1), lost at " + lost, y.message(0, 1), lost);
            y.pass(1);
            due.is("message(0, 1), lost at " + lost + ", later", y.message(0, 1), lost);
        }
    }

    private static void whatWasPaid(Due due) {
        RelayStakes x = line();
        x.send(0, 1);
        x.send(0, 2);
        x.send(0, 3);
        int[] want = {0, 9, 16};
        for (int tick = 0; tick <= 4; tick++) {
            for (int message = 0; message < 3; message++) {
                due.is("message(" + message + ", 2) in the tick " + tick, x.message(message, 2), want[message]);
            }
            x.pass(1);
        }
        due.is("message(0, 2), lost", lostAt(2).message(0, 2), 21);
    }

    private static void whatWentBack(Due due) {
        for (int lost = 1; lost <= 4; lost++) {
            int[] want = {0, 21, 12, 5, 0};
            RelayStakes x = lostAt(lost);
            due.is("message(0, 3), lost at " + lost, x.message(0, 3), want[lost]);
            x.pass(2);
            due.is("message(0, 3), lost at " + lost + ", later", x.message(0, 3), want[lost]);
        }
        due.is("message(0, 3), ON_WAY", sent().message(0, 3), 0);
    }

    private static void howManyReceipts(Due due) {
        RelayStakes x = twelve();
        for (int tick = 0; tick <= 12; tick++) {
            due.is("message(0, 4) in the tick " + tick, x.message(0, 4), Math.min(tick, 10));
            x.pass(1);
        }
        for (int lost = 1; lost <= 3; lost++) {
            due.is("message(0, 4), lost at " + lost, lostAt(lost).message(0, 4), lost - 1);
        }
        RelayStakes next = line();
        next.send(0, 1);
        next.pass(1);
        due.is("message(0, 4), next to it", next.message(0, 4), 0);
    }

    private static void whatCameFromAStake(Due due) {
        int[] want = {0, 0, 9, 16, 0};
        for (int lost = 1; lost <= 4; lost++) {
            RelayStakes x = lostAt(lost);
            due.is("message(0, 5), lost at " + lost, x.message(0, 5), want[lost]);
            x.pass(2);
            due.is("message(0, 5), lost at " + lost + ", later", x.message(0, 5), want[lost]);
        }
        due.is("message(0, 5), ON_WAY", sent().message(0, 5), 0);
    }

    private static void noSuchMessage(Due due) {
        due.range("message(message, 0)", 0, 1, NO_SUCH, MessageEdges::twoSent, (x, message) -> x.message(message, 0));
        due.fails("message(2, 6)", NO_SUCH, MessageEdges::twoSent, x -> x.message(2, 6));
        due.fails("message(-1, -1)", NO_SUCH, MessageEdges::twoSent, x -> x.message(-1, -1));
        due.fails("message(0, 0), none sent", NO_SUCH, MessageEdges::line, x -> x.message(0, 0));
        RelayStakes x = sixty();
        due.is("message(59, 1) of 60", x.message(59, 1), 2);
        due.same("message(60, 1) of 60", Answer.of(() -> x.message(60, 1)), "throws.IndexOutOfBoundsException");
    }

    private static void nodesOfWays(Due due) {
        RelayStakes x = line();
        x.send(0, 3);
        x.send(2, 1);
        way(due, "two sent", x, 0, 0, 1, 2, 3);
        way(due, "two sent", x, 1, 2, 1);
        x.link(1, 2, false);
        x.lose(1, 1);
        x.pass(1);
        way(due, "lost, and parted", x, 0, 0, 1, 2, 3);
        way(due, "delivered, and parted", x, 1, 2, 1);
    }

    private static void placeOfTheSender(Due due) {
        RelayStakes x = line();
        for (int node = 0; node < 4; node++) {
            int message = x.send(node, node == 3 ? 2 : node + 1);
            due.is("way(" + message + ", 0)", x.way(message, 0), node);
            due.is("way(" + message + ", 1)", x.way(message, 1), node == 3 ? 2 : node + 1);
        }
        x.pass(1);
        due.is("way(0, 0), delivered", x.way(0, 0), 0);
    }

    private static void behindTheLast(Due due) {
        RelayStakes x = twelve();
        x.send(11, 10);
        for (int place = 0; place < 12; place++) {
            due.is("way(0, " + place + ")", x.way(0, place), place);
        }
        for (int place : new int[] {12, 13, 60, Integer.MAX_VALUE}) {
            due.is("way(0, " + place + ")", x.way(0, place), -1);
        }
        due.is("way(1, 1)", x.way(1, 1), 10);
        for (int place : new int[] {2, 3, 11, 12, Integer.MAX_VALUE}) {
            due.is("way(1, " + place + ")", x.way(1, place), -1);
        }
    }

    private static void wayOfNoMessage(Due due) {
        due.range("way(message, 0)", 0, 1, NO_SUCH, MessageEdges::twoSent, (x, message) -> x.way(message, 0));
        due.fails("way(0, 0), none sent", NO_SUCH, MessageEdges::line, x -> x.way(0, 0));
        due.fails("way(2, 99)", NO_SUCH, MessageEdges::twoSent, x -> x.way(2, 99));
    }

    private static void placeBelowZero(Due due) {
        for (int place : new int[] {-1, -2, Integer.MIN_VALUE}) {
            due.fails("way(0, " + place + ")", NO_SUCH, MessageEdges::twoSent, x -> x.way(0, place));
            due.fails("way(2, " + place + ")", NO_SUCH, MessageEdges::twoSent, x -> x.way(2, place));
        }
        due.answers("way(0, 0)", 0, MessageEdges::twoSent, x -> x.way(0, 0));
        due.answers("way(0, 1)", 1, MessageEdges::twoSent, x -> x.way(0, 1));
    }
}
