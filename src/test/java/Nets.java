/** Networks that tests begin with. */
final class Nets {
    private Nets() {
    }

    /** Nodes that are not linked, each with a purse of 100, a stake of 20 and a price of 5. */
    static RelayStakes nodes(int count) {
        RelayStakes x = new RelayStakes();
        for (int i = 0; i < count; i++) {
            x.node(100, 20, 5);
        }
        return x;
    }

    /** A line from node 0, with this purse, over nodes with these stakes and prices, to an end; only they have money. */
    static RelayStakes line(int purse, int... stakesAndPrices) {
        RelayStakes x = new RelayStakes();
        x.node(purse, 0, 0);
        for (int i = 0; i + 1 < stakesAndPrices.length; i += 2) {
            x.node(0, stakesAndPrices[i], stakesAndPrices[i + 1]);
        }
        int end = x.node(0, 0, 0);
        for (int i = 0; i < end; i++) {
            x.link(i, i + 1, true);
        }
        return x;
    }

    /** Node 0 of two is LEAVING, as the tick 0 is; it has a purse of 100 and a stake of 20. */
    static RelayStakes leaving() {
        RelayStakes x = nodes(2);
        x.leave(0);
        return x;
    }

    /** Node 0 of two is GONE, in the tick 15, with a purse of 120. */
    static RelayStakes gone() {
        return pass(leaving(), 15);
    }

    static RelayStakes pass(RelayStakes x, int ticks) {
        for (int left = ticks; left > 0; left -= 30) {
            x.pass(Math.min(30, left));
        }
        return x;
    }

    static RelayStakes link(RelayStakes x, int... pairs) {
        for (int i = 0; i + 1 < pairs.length; i += 2) {
            x.link(pairs[i], pairs[i + 1], true);
        }
        return x;
    }

    /** As many ticks pass as there are letters: in each the watcher wakes for a w, and sleeps for another letter. */
    static RelayStakes ticks(RelayStakes x, String turns) {
        for (int i = 0; i < turns.length(); i++) {
            if (turns.charAt(i) == 'w' && x.watcher() != RelayStakes.NONE) {
                x.wake(x.watcher());
            }
            x.pass(1);
        }
        return x;
    }
}
