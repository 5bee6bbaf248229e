/** Networks that tests begin with. */
final class Nets {
    private Nets() {
    }

    /** Nodes that are not linked, each with a purse of 100, a stake of 20 and a price of 5. */
    static RelayStakes nodes(int count) {
        RelayStakes x = new RelayStakes();
        for (int i = 0; i < count; i++) {
            x.node(100, 20, 5);
        }
        return x;
    }

    /** A line from node 0, with this purse, over nodes with these stakes and prices, to an end; only they have money. */
    static RelayStakes line(int purse, int... stakesAndPrices) {
        RelayStakes x = new RelayStakes();
        x.node(purse, 0, 0);
        for (int i = 0; i + 1 < stakesAndPrices.length; i += 2) {
            x.node(0, stakesAndPrices[i], stakesAndPrices[i + 1]);
        }
        int end = x.node(0, 0, 0);
        for (int i = 0; i < end; i++) {
            x.link(i, i + 1, true);
        }
        return x;
    }

    /** Node 0 of two is LEAVING, as the tick 0 is; it has a purse of 100 and a stake of 20. */
    static RelayStakes leaving() {
        RelayStakes x = nodes(2);
        x.leave(0);
        return x;
    }

    /** Node 0 of two is GONE, in the tick 15, with a purse of 120. */
    static RelayStakes gone() {
        return pass(leaving(), 15);
    }

    static RelayStakes pass(RelayStakes x, int ticks) {
        for (int left = ticks; left > 0; left -= 30) {
            x.pass(Math.min(30, left));
        }
        return x;
    }

    static RelayStakes link(RelayStakes x, int... pairs) {
        for (int i = 0; i + 1 < pairs.length; i += 2) {
            x.link(pairs[i], pairs[i + 1], true);
        }
        return x;
    }

    /** As many ticks pass as there are letters: in each the watcher wakes for a w, and sleeps for another letter. */
    static RelayStakes ticks(RelayStakes x, String turns) {
        for (int i = 0; i < turns.length(); i++) {
            if (turns.charAt(i) == 'w' && x.watcher() != RelayStakes.NONE) {
                x.wake(x.watcher());
            }
            x.pass(1);
        }
        return x;
    }

    /** Three nodes, each linked to both others. */
    static RelayStakes ring() {
        return link(nodes(3), 0, 1, 1, 2, 2, 0);
    }

    /** 0 - 1 - 2 - 3: the sender has 100, and pays 9 to node 1, with a stake of 40, and 7 to node 2, with one of 30. */
    static RelayStakes overTwo() {
        return line(100, 40, 9, 30, 7);
    }

    static RelayStakes sent() {
        RelayStakes x = overTwo();
        x.send(0, 3);
        return x;
    }

    static RelayStakes twoSent() {
        RelayStakes x = sent();
        x.send(3, 2);
        return x;
    }

    /** From 0 to 1 over 2, 3, 4 .., one of them alone, at these prices, with stakes of 999. */
    static RelayStakes fork(int... prices) {
        RelayStakes x = new RelayStakes();
        x.node(9999, 0, 0);
        x.node(0, 0, 0);
        for (int price : prices) {
            int relay = x.node(0, 999, price);
            link(x, 0, relay, relay, 1);
        }
        return x;
    }

    /** Node 2 has this trust, and a price of 10; node 3 has a trust of 50, and the other price. */
    static RelayStakes trusted(int up, int down, int otherPrice) {
        RelayStakes x = fork(0);
        for (int i = 0; i < up; i++) {
            x.send(0, 1);
        }
        pass(x, 2);
        x.lose(2, down);
        for (int i = 0; i < down; i++) {
            x.send(0, 1);
        }
        x.pass(1);
        x.price(2, 10);
        x.node(0, 999, otherPrice);
        return link(x, 0, 3, 3, 1);
    }

    static RelayStakes overTen() {
        RelayStakes x = line(99, 2, 1, 2, 1, 2, 1, 2, 1, 2, 1, 2, 1, 2, 1, 2, 1, 2, 1, 2, 1);
        x.send(0, 11);
        return x;
    }

    /** Three relay, for 9, 7 and 5; it is lost at the node with this number. */
    static RelayStakes lostAt(int node) {
        RelayStakes x = line(100, 40, 9, 30, 7, 60, 5);
        x.send(0, 4);
        x.lose(node, 1);
        return pass(x, node);
    }
}
