/** The edges of ways, and of what is paid for them: the first half of 'Messages'. */
final class WayEdges {
    private static final int DELIVERED = RelayStakes.DELIVERED;

    private WayEdges() {
    }

    static void all(Edges edges) {
        edges.under("Messages");
        edges.of("another one, which may be LEAVING or GONE and cost nothing", WayEdges::theEnd);
        edges.of("all that are JOINED", WayEdges::thoseThatAreJoined);
        edges.of("have a stake of at least twice their price", WayEdges::twiceTheirPrice);
        edges.of("a tenth of what its trust lacks to 100, rounded down", WayEdges::aTenthOfTheTrust);
        edges.of("the prices of those that relay, each and a tenth of what its trust lacks", WayEdges::eachAndATenth);
        edges.of("are the least together", WayEdges::theLeastTogether);
        edges.of("of several the one with the fewest hops", WayEdges::theFewestHops);
        edges.of("then the one whose first node behind the sender is the lowest", WayEdges::theLowestFirst);
        edges.of("and so on", WayEdges::theLowestThen);
        edges.of("The sender pays the prices of those that relay, together, of its purse", WayEdges::theSenderPays);
        edges.of("prices that change later do not matter for it", WayEdges::pricesLater);
        edges.of("Messages are numbered from 0, at most 60", WayEdges::numbers);
    }

    private static void theEnd(Due due) {
        RelayStakes x = Nets.overTwo();
        x.price(3, 50);
        due.is("cost(0, 3), the end JOINED, with a price of 50 and no stake", x.cost(0, 3), 16);
        x.leave(3);
        due.is("cost(0, 3), the end LEAVING", x.cost(0, 3), 16);
        due.is("send(0, 3), the end LEAVING", x.send(0, 3), 0);
        due.is("nodeIs(0, 0)", x.nodeIs(0, 0), 84);
        x.pass(3);
        due.is("message(0, 0), the end LEAVING", x.message(0, 0), DELIVERED);
        x.pass(11);
        due.is("cost(0, 3) in the tick 14", x.cost(0, 3), 16);
        x.pass(1);
        due.is("cost(0, 3), the end GONE", x.cost(0, 3), 16);
        due.is("send(0, 3), the end GONE", x.send(0, 3), 1);
        x.pass(3);
        due.is("message(1, 0), the end GONE", x.message(1, 0), DELIVERED);
        due.is("nodeIs(3, 0), the end has nothing by that", x.nodeIs(3, 0), 0);
        RelayStakes next = Nets.link(Nets.gone(), 0, 1);
        due.is("cost(1, 0), next to one that is GONE", next.cost(1, 0), 0);
        due.is("cost(0, 1), from one that is GONE", next.cost(0, 1), 0);
    }

    private static void thoseThatAreJoined(Due due) {
        RelayStakes x = Nets.overTwo();
        due.is("cost(0, 3), JOINED", x.cost(0, 3), 16);
        x.leave(1);
        due.is("cost(0, 3), LEAVING", x.cost(0, 3), -1);
        due.is("cost(0, 1), to it", x.cost(0, 1), 0);
        x.join(1, 0);
        due.is("cost(0, 3), joined again", x.cost(0, 3), 16);
        x.leave(1);
        x.pass(14);
        due.is("cost(0, 3) in the tick 14", x.cost(0, 3), -1);
        x.pass(1);
        due.is("cost(0, 3), GONE", x.cost(0, 3), -1);
        x.price(1, 0);
        due.is("cost(0, 3), GONE, with a price of 0", x.cost(0, 3), -1);
        x.join(1, 1);
        due.is("cost(0, 3), joined with a stake of 1, with a price of 0", x.cost(0, 3), 7);
        RelayStakes y = Nets.fork(10, 11);
        y.leave(2);
        due.is("cost(0, 1), with another that is JOINED", y.cost(0, 1), 11);
    }

    private static void twiceTheirPrice(Due due) {
        for (int price : new int[] {1, 5, 49, 50}) {
            int[] stakes = {0, price, 2 * price - 1, 2 * price, 2 * price + 1};
            for (int stake : stakes) {
                RelayStakes x = Nets.line(100, stake, price);
                due.is("cost with a price of " + price + " and a stake of " + stake, x.cost(0, 2), stake >= 2 * price ? price : -1);
            }
        }
        due.is("cost with a price of 0 and a stake of 0", Nets.line(0, 0, 0).cost(0, 2), 0);
        RelayStakes x = Nets.line(100, 19, 10);
        due.is("cost with a stake of 19 and a price of 10", x.cost(0, 2), -1);
        x.price(1, 9);
        due.is("cost with a stake of 19 and a price of 9", x.cost(0, 2), 9);
        RelayStakes two = Nets.line(100, 10, 5, 9, 5);
        due.is("cost with the second one's stake too small", two.cost(0, 3), -1);
        due.is("cost to the one whose stake is too small", two.cost(0, 2), 5);
        RelayStakes put = new RelayStakes();
        put.node(0, 0, 0);
        put.node(2, 9, 5);
        put.node(0, 0, 0);
        Nets.link(put, 0, 1, 1, 2);
        due.is("cost with a stake of 9", put.cost(0, 2), -1);
        put.put(1, 1);
        due.is("cost with a stake of 10", put.cost(0, 2), 5);
    }

    private static void aTenthOfTheTrust(Due due) {
        int[][] upDownTrustTenth = {
            {0, 3, 0, 10}, {9, 3, 0, 10}, {10, 3, 0, 10}, {11, 3, 1, 9}, {19, 3, 9, 9}, {20, 3, 10, 9}, {21, 3, 11, 8},
            {9, 2, 19, 8}, {10, 2, 20, 8}, {11, 2, 21, 7}, {0, 1, 30, 7}, {1, 1, 31, 6}, {19, 1, 49, 5},
            {0, 0, 50, 5}, {1, 0, 51, 4}, {9, 0, 59, 4}, {10, 0, 60, 4}, {11, 0, 61, 3}, {39, 0, 89, 1}, {40, 0, 90, 1},
            {41, 0, 91, 0}, {49, 0, 99, 0}, {50, 0, 100, 0}, {51, 0, 100, 0}};
        for (int[] one : upDownTrustTenth) {
            int even = 10 + one[3] - 5;
            RelayStakes x = Nets.trusted(one[0], one[1], even);
            due.is("nodeIs(2, 2)", x.nodeIs(2, 2), one[2]);
            due.is("cost with a trust of " + one[2] + ", as light as another", x.cost(0, 1), 10);
            x.price(3, even + 1);
            due.is("cost with a trust of " + one[2] + ", 1 lighter", x.cost(0, 1), 10);
            x.price(3, even - 1);
            due.is("cost with a trust of " + one[2] + ", 1 heavier", x.cost(0, 1), even - 1);
        }
    }

    /** From 0 to 1 over 2 alone, or over 3 and 4, or over 5, 6 and 7; each with a trust of 50. */
    private static RelayStakes oneTwoThree(int... prices) {
        RelayStakes x = new RelayStakes();
        x.node(9999, 0, 0);
        x.node(0, 0, 0);
        for (int price : prices) {
            x.node(0, 999, price);
        }
        return Nets.link(x, 0, 2, 2, 1, 0, 3, 3, 4, 4, 1, 0, 5, 5, 6, 6, 7, 7, 1);
    }

    /** The tenth is of each, not of them together: 39 lacking thrice are 3 and 3 and 3, not 11. */
    private static void eachAndATenth(Due due) {
        due.is("cost: 15 and 5 against 10 and 10", oneTwoThree(15, 5, 5, 50, 50, 50).cost(0, 1), 15);
        due.is("cost: 16 and 5 against 10 and 10", oneTwoThree(16, 5, 5, 50, 50, 50).cost(0, 1), 10);
        due.is("cost: 20 and 5 against 5 and 5 and 15", oneTwoThree(20, 50, 50, 0, 0, 10).cost(0, 1), 20);
        due.is("cost: 21 and 5 against 5 and 5 and 15", oneTwoThree(21, 50, 50, 0, 0, 10).cost(0, 1), 10);
        RelayStakes x = Nets.line(0, 0, 0, 0, 0, 0, 0);
        for (int i = 0; i < 11; i++) {
            x.send(0, 4);
        }
        x.pass(4);
        x.node(0, 999, 5);
        Nets.link(x, 0, 5, 5, 4);
        due.is("nodeIs(3, 2)", x.nodeIs(3, 2), 61);
        due.is("cost: 5 and 5 against 3 and 3 and 3", x.cost(0, 4), 0);
        x.price(5, 4);
        due.is("cost: 4 and 5 against 3 and 3 and 3", x.cost(0, 4), 4);
    }

    private static void theLeastTogether(Due due) {
        due.is("cost: 10 and 5 against 3 and 3 and 10", oneTwoThree(10, 3, 3, 50, 50, 50).cost(0, 1), 10);
        due.is("cost: 11 and 5 against 3 and 3 and 10", oneTwoThree(11, 3, 3, 50, 50, 50).cost(0, 1), 11);
        due.is("cost: 12 and 5 against 3 and 3 and 10", oneTwoThree(12, 3, 3, 50, 50, 50).cost(0, 1), 6);
        due.is("cost: 0 and 14 against 50", oneTwoThree(50, 0, 14, 50, 50, 50).cost(0, 1), 14);
        due.is("cost: 14 and 0 against 50", oneTwoThree(50, 14, 0, 50, 50, 50).cost(0, 1), 14);
        due.is("cost: 0, 0 and 9 and 15 against 0 and 14 and 10", oneTwoThree(50, 0, 14, 0, 0, 9).cost(0, 1), 14);
        due.is("cost: 0, 0 and 8 and 15 against 0 and 14 and 10", oneTwoThree(50, 0, 14, 0, 0, 8).cost(0, 1), 8);
        due.is("cost: 6 against 7, the higher one", Nets.fork(7, 6).cost(0, 1), 6);
        due.is("cost: 6 against 7, the lower one", Nets.fork(6, 7).cost(0, 1), 6);
        RelayStakes next = Nets.link(Nets.fork(0), 0, 1);
        next.send(0, 1);
        due.way("next to it, against a price of 0 and 5 for trust", next, 0, 0, 1);
        RelayStakes most = Nets.line(500, 100, 50, 100, 50, 100, 50, 100, 50, 100, 50, 100, 50, 100, 50, 100, 50, 100, 50, 100, 50);
        due.is("cost over 10, at 50 each", most.cost(0, 11), 500);
    }

    /** From 0 to 1 over 2, 3 and 4, or over 5 and 6, or over 7 alone; each with a trust of 50. */
    private static RelayStakes threeTwoOne(int... prices) {
        RelayStakes x = new RelayStakes();
        x.node(9999, 0, 0);
        x.node(0, 0, 0);
        for (int price : prices) {
            x.node(0, 999, price);
        }
        return Nets.link(x, 0, 2, 2, 3, 3, 4, 4, 1, 0, 5, 5, 6, 6, 1, 0, 7, 7, 1);
    }

    private static void theFewestHops(Due due) {
        RelayStakes x = threeTwoOne(0, 0, 5, 5, 5, 15);
        x.send(0, 1);
        due.way("as light over one, two and three", x, 0, 0, 7, 1);
        x.price(7, 14);
        x.send(0, 1);
        due.way("lighter over one", x, 1, 0, 7, 1);
        x.price(7, 16);
        x.send(0, 1);
        due.way("heavier over one", x, 2, 0, 5, 6, 1);
        x.price(4, 4);
        x.send(0, 1);
        due.way("lighter over three", x, 3, 0, 2, 3, 4, 1);
        x.price(4, 6);
        x.send(0, 1);
        due.way("heavier over three", x, 4, 0, 5, 6, 1);
        RelayStakes light = Nets.line(0, 0, 0, 0, 0);
        for (int i = 0; i < 41; i++) {
            light.send(0, 3);
        }
        light.pass(3);
        Nets.link(light, 0, 2);
        light.send(0, 3);
        due.way("over trust of 91, which weighs nothing", light, 41, 0, 2, 3);
        Nets.link(light, 0, 3);
        light.send(0, 3);
        due.way("next to it, against what weighs nothing", light, 42, 0, 3);
    }

    private static void theLowestFirst(Due due) {
        RelayStakes x = Nets.fork(7, 7, 7, 7, 7, 7, 7, 7, 7, 7);
        for (int lowest = 2; lowest < 12; lowest++) {
            int message = x.send(0, 1);
            due.way("over the lowest that is left", x, message, 0, lowest, 1);
            x.link(0, lowest, false);
        }
        RelayStakes zero = Nets.link(Nets.nodes(4), 1, 0, 0, 2, 1, 3, 3, 2);
        zero.send(1, 2);
        due.way("over 0, against 3", zero, 0, 1, 0, 2);
        RelayStakes y = new RelayStakes();
        for (int i = 0; i < 6; i++) {
            y.node(100, 999, 7);
        }
        Nets.link(y, 0, 2, 2, 5, 5, 1, 0, 3, 3, 4, 4, 1);
        y.send(0, 1);
        due.way("the first node behind the sender, not the second", y, 0, 0, 2, 5, 1);
        y.send(1, 0);
        due.way("the first node behind the other sender", y, 1, 1, 4, 3, 0);
        y.price(5, 8);
        y.send(0, 1);
        due.way("over the lowest, 1 heavier", y, 2, 0, 3, 4, 1);
        y.price(4, 8);
        y.send(0, 1);
        due.way("over the lowest, as heavy again", y, 3, 0, 2, 5, 1);
    }

    /** From 0 to 1 over one of 2, 5, one of 3, 6 and one of 4, 7. */
    private static RelayStakes layers() {
        RelayStakes x = new RelayStakes();
        for (int i = 0; i < 8; i++) {
            x.node(1000, 999, 1);
        }
        return Nets.link(x, 0, 2, 0, 5, 2, 3, 2, 6, 5, 3, 5, 6, 3, 4, 3, 7, 6, 4, 6, 7, 4, 1, 7, 1);
    }

    private static void theLowestThen(Due due) {
        RelayStakes x = layers();
        int[][] partedAndWay = {{0, 1, 2, 3, 4}, {3, 4, 2, 3, 7}, {3, 7, 2, 6, 4}, {6, 4, 2, 6, 7}, {0, 2, 5, 6, 7}};
        for (int i = 0; i < partedAndWay.length; i++) {
            int[] one = partedAndWay[i];
            x.link(one[0], one[1], false);
            x.send(0, 1);
            due.way("parted " + one[0] + ", " + one[1], x, i, 0, one[2], one[3], one[4], 1);
        }
        RelayStakes y = layers();
        y.send(1, 0);
        due.way("from the other side", y, 0, 1, 4, 3, 2, 0);
        y.link(4, 3, false);
        y.send(1, 0);
        due.way("from the other side, parted 4, 3", y, 1, 1, 4, 6, 2, 0);
        y.link(6, 2, false);
        y.send(1, 0);
        due.way("from the other side, parted 6, 2", y, 2, 1, 4, 6, 5, 0);
    }

    private static void theSenderPays(Due due) {
        RelayStakes x = Nets.line(33, 40, 9, 30, 7);
        x.send(0, 3);
        due.is("nodeIs(0, 0), one sent", x.nodeIs(0, 0), 17);
        due.is("message(0, 2)", x.message(0, 2), 16);
        due.is("money(), one sent", x.money(), 103);
        x.send(0, 3);
        due.is("nodeIs(0, 0), two sent", x.nodeIs(0, 0), 1);
        due.is("nodeIs(1, 0), two sent", x.nodeIs(1, 0), 0);
        due.is("nodeIs(2, 0), two sent", x.nodeIs(2, 0), 0);
        due.is("money(), two sent", x.money(), 103);
        due.same("send(0, 3), with 1 left", Answer.of(() -> x.send(0, 3)), "throws.IllegalStateException");
        due.is("send(0, 1), for nothing", x.send(0, 1), 2);
        due.is("nodeIs(0, 0), three sent", x.nodeIs(0, 0), 1);
        due.is("nodeIs(0, 1), its stake", x.nodeIs(0, 1), 0);
        RelayStakes staked = Nets.nodes(3);
        Nets.link(staked, 0, 1, 1, 2);
        staked.send(0, 2);
        due.is("nodeIs(0, 0), with a stake", staked.nodeIs(0, 0), 95);
        due.is("nodeIs(0, 1), with a stake", staked.nodeIs(0, 1), 20);
    }

    private static void pricesLater(Due due) {
        for (int later : new int[] {0, 8, 10, 50}) {
            RelayStakes x = Nets.sent();
            x.price(1, later);
            x.price(2, later);
            due.is("message(0, 2) with " + later + " later", x.message(0, 2), 16);
            x.pass(3);
            due.is("message(0, 0) with " + later + " later", x.message(0, 0), DELIVERED);
            due.is("nodeIs(1, 0) with " + later + " later", x.nodeIs(1, 0), 9);
            due.is("nodeIs(2, 0) with " + later + " later", x.nodeIs(2, 0), 7);
            due.is("paidAnew(2) with " + later + " later", x.paidAnew(2), 7);
            RelayStakes y = Nets.sent();
            y.lose(2, 1);
            y.pass(1);
            y.price(1, later);
            y.price(2, later);
            y.pass(1);
            due.is("message(0, 3), lost, with " + later + " later", y.message(0, 3), 7);
            due.is("message(0, 5), lost, with " + later + " later", y.message(0, 5), 9);
            due.is("nodeIs(1, 0), lost, with " + later + " later", y.nodeIs(1, 0), 9);
            due.is("paidAnew(1), lost, with " + later + " later", y.paidAnew(1), 9);
        }
    }

    private static void numbers(Due due) {
        RelayStakes x = Nets.overTwo();
        for (int i = 0; i < 60; i++) {
            int message = i;
            due.same("message(" + i + ", 1) ahead of it", Answer.of(() -> x.message(message, 1)), "throws.IndexOutOfBoundsException");
            due.is("send " + i, i % 2 == 0 ? x.send(2, 3) : x.send(1, 2), i);
            due.is("message(" + i + ", 1)", x.message(i, 1), 2 - i % 2);
        }
        due.same("a 61st", Answer.of(() -> x.send(2, 3)), "throws.IllegalStateException");
        due.same("message(60, 1)", Answer.of(() -> x.message(60, 1)), "throws.IndexOutOfBoundsException");
        due.same("way(60, 0)", Answer.of(() -> x.way(60, 0)), "throws.IndexOutOfBoundsException");
    }
}
