import java.util.ArrayList;

/** A relay network that is paid. README.md tells how to use it. */
public final class RelayStakes {
    public static final int NONE = -1;
    public static final int JOINED = 0, LEAVING = 1, GONE = 2;
    public static final int ON_WAY = 0, DELIVERED = 1, LOST = 2;

    private static final int MOST_NODES = 12;
    private static final int MOST_MESSAGES = 60;
    private static final int MOST_MONEY = 9999;
    private static final int MOST_FIRST_STAKE = 999;
    private static final int MOST_PRICE = 50;
    private static final int MOST_LOSSES = 9;
    private static final int MOST_TOLD_TICK = 9999;
    private static final int MOST_TICKS_AT_ONCE = 30;
    private static final int LAST_TICK = 5000;

    private static final int FIRST_TRUST = 50;
    private static final int MOST_TRUST = 100;
    private static final int TRUST_FOR_DELIVERY = 1;
    private static final int TRUST_OFF_FOR_LOSS = 20;
    private static final int TRUST_OFF_FOR_SLEEP = 10;
    private static final int STAKE_OFF_FOR_SLEEP = 10;
    private static final int PROVABLE_TICKS = 10;
    private static final int TICKS_TO_LEAVE = 15;

    private static final int LAST_OF_MESSAGE = 5;
    private static final int LAST_OF_NODE = 6;

    private final ArrayList<Node> nodes;
    private final ArrayList<Message> messages;
    private final WaySearch search;
    private final Turns turns;
    private int tick;

    public RelayStakes() {
        nodes = new ArrayList<Node>();
        messages = new ArrayList<Message>();
        search = new WaySearch();
        turns = new Turns();
        tick = 0;
    }

    // ---- nodes

    public int node(int purse, int stake, int price) throws IllegalArgumentException, IllegalStateException {
        checkRange(purse, 0, MOST_MONEY);
        checkRange(stake, 0, MOST_FIRST_STAKE);
        checkRange(price, 0, MOST_PRICE);
        if (nodes.size() >= MOST_NODES) {
            throw new IllegalStateException("there are as many nodes as there may be");
        }
        nodes.add(new Node(purse, stake, price));
        return nodes.size() - 1;
    }

    public boolean link(int node, int other, boolean is) throws IndexOutOfBoundsException, IllegalArgumentException {
        checkPair(node, other);
        Node one = nodeAt(node);
        boolean was = one.isLinkedTo(other);
        one.setLinkTo(other, is);
        nodeAt(other).setLinkTo(node, is);
        return was;
    }

    public int price(int node, int price) throws IndexOutOfBoundsException, IllegalArgumentException {
        Node one = nodeAt(node);
        checkRange(price, 0, MOST_PRICE);
        int before = one.price;
        one.price = price;
        return before;
    }

    public int put(int node, int money) throws IndexOutOfBoundsException, IllegalArgumentException, IllegalStateException {
        Node one = nodeAt(node);
        checkRange(money, 1, MOST_MONEY);
        if (one.how == GONE) {
            throw new IllegalStateException("the node is GONE");
        }
        checkPurse(one, money);
        one.moveToStake(money);
        return one.stake;
    }

    public int leave(int node) throws IndexOutOfBoundsException, IllegalStateException {
        Node one = nodeAt(node);
        if (one.how != JOINED) {
            throw new IllegalStateException("the node is not JOINED");
        }
        one.how = LEAVING;
        one.goneTick = tick + TICKS_TO_LEAVE;
        return one.goneTick;
    }

    public int join(int node, int money) throws IndexOutOfBoundsException, IllegalArgumentException, IllegalStateException {
        Node one = nodeAt(node);
        checkRange(money, 0, MOST_MONEY);
        if (one.how == JOINED) {
            throw new IllegalStateException("the node is JOINED");
        }
        if (one.how == GONE && money == 0) {
            throw new IllegalStateException("a GONE node joins with a stake only");
        }
        checkPurse(one, money);
        one.moveToStake(money);
        one.how = JOINED;
        one.goneTick = NONE;
        return one.stake;
    }

    // ---- messages

    public int send(int node, int to) throws IndexOutOfBoundsException, IllegalArgumentException, IllegalStateException {
        checkPair(node, to);
        Node sender = nodeAt(node);
        if (messages.size() >= MOST_MESSAGES) {
            throw new IllegalStateException("there are as many messages as there may be");
        }
        if (!search.find(nodes, node, to)) {
            throw new IllegalStateException("there is no way");
        }
        checkPurse(sender, search.found.cost);
        Message sent = new Message(search.found);
        sender.purse -= sent.way.cost;
        messages.add(sent);
        return messages.size() - 1;
    }

    public int cost(int node, int to) throws IndexOutOfBoundsException, IllegalArgumentException {
        checkPair(node, to);
        return search.find(nodes, node, to) ? search.found.cost : NONE;
    }

    public int lose(int node, int messages) throws IndexOutOfBoundsException, IllegalArgumentException {
        Node one = nodeAt(node);
        checkRange(messages, 0, MOST_LOSSES);
        int before = one.losses;
        one.losses = messages;
        return before;
    }

    public int message(int message, int what) throws IndexOutOfBoundsException, IllegalArgumentException {
        Message one = messageAt(message);
        checkRange(what, 0, LAST_OF_MESSAGE);
        switch (what) {
            case 0: return one.how;
            case 1: return one.way.nodeOn(one.place);
            case 2: return one.way.cost;
            case 3: return one.back;
            case 4: return one.receipts;
            default: return one.fromStake;
        }
    }

    public int way(int message, int place) throws IndexOutOfBoundsException {
        Message one = messageAt(message);
        if (place < 0) {
            throw new IndexOutOfBoundsException("there is no such place");
        }
        return one.way.nodeOn(place);
    }

    // ---- watchers

    public boolean wake(int node) throws IndexOutOfBoundsException {
        nodeAt(node);
        if (turns.watcherIn(tick) != node) {
            return false;
        }
        turns.setAwake(tick);
        return true;
    }

    public int prove(int node, int tick) throws IndexOutOfBoundsException, IllegalArgumentException, IllegalStateException {
        Node prover = nodeAt(node);
        checkRange(tick, 0, MOST_TOLD_TICK);
        if (tick >= this.tick || tick < this.tick - PROVABLE_TICKS) {
            throw new IllegalStateException("the tick is not one of the latest that have passed");
        }
        checkSlept(node, tick);
        checkWatchedBehind(node, tick);
        Node sleeper = nodeAt(turns.watcherIn(tick));
        int had = sleeper.takeStake(STAKE_OFF_FOR_SLEEP);
        prover.purse += had;
        sleeper.lowerTrust(TRUST_OFF_FOR_SLEEP);
        turns.setProven(tick);
        return had;
    }

    public int watcher() {
        return turns.watcherIn(tick);
    }

    // ---- ticks and asking

    public int pass(int ticks) throws IllegalArgumentException, IllegalStateException {
        checkRange(ticks, 1, MOST_TICKS_AT_ONCE);
        if (ticks > LAST_TICK - tick) {
            throw new IllegalStateException("the tick would be above the last one");
        }
        for (int i = 0; i < ticks; i++) {
            moveMessages();
            beginTick();
        }
        return tick;
    }

    public int nodeIs(int node, int what) throws IndexOutOfBoundsException, IllegalArgumentException {
        Node one = nodeAt(node);
        checkRange(what, 0, LAST_OF_NODE);
        switch (what) {
            case 0: return one.purse;
            case 1: return one.stake;
            case 2: return one.trust;
            case 3: return one.how;
            case 4: return one.got;
            case 5: return one.receipts;
            default: return one.goneTick;
        }
    }

    public int paidAnew(int node) throws IndexOutOfBoundsException {
        nodeAt(node);
        int together = 0;
        for (int i = 0; i < messages.size(); i++) {
            Message one = messages.get(i);
            if (one.how != ON_WAY) {
                together += one.receiptsPriceOf(node);
            }
        }
        return together;
    }

    public int money() {
        int together = 0;
        for (int i = 0; i < nodes.size(); i++) {
            Node one = nodes.get(i);
            together += one.purse + one.stake;
        }
        for (int i = 0; i < messages.size(); i++) {
            Message one = messages.get(i);
            if (one.how == ON_WAY) {
                together += one.way.cost;
            }
        }
        return together;
    }

    // ---- what the calls stand on: looking at arguments

    private Node nodeAt(int node) {
        if (node < 0 || node >= nodes.size()) {
            throw new IndexOutOfBoundsException("there is no such node");
        }
        return nodes.get(node);
    }

    private Message messageAt(int message) {
        if (message < 0 || message >= messages.size()) {
            throw new IndexOutOfBoundsException("there is no such message");
        }
        return messages.get(message);
    }

    private void checkPair(int node, int other) {
        nodeAt(node);
        nodeAt(other);
        if (node == other) {
            throw new IllegalArgumentException("both nodes are the same");
        }
    }

    private static void checkRange(int value, int least, int most) {
        if (value < least || value > most) {
            throw new IllegalArgumentException("an argument is out of range");
        }
    }

    private static void checkPurse(Node node, int money) {
        if (node.purse < money) {
            throw new IllegalStateException("the purse has not so much");
        }
    }

    private void checkSlept(int prover, int slept) {
        int sleeper = turns.watcherIn(slept);
        if (sleeper == NONE) {
            throw new IllegalStateException("the tick had no watcher");
        }
        if (sleeper == prover) {
            throw new IllegalStateException("the watcher of the tick is the prover");
        }
        if (turns.wasAwake(slept)) {
            throw new IllegalStateException("the watcher of the tick was awake");
        }
        if (turns.wasProven(slept)) {
            throw new IllegalStateException("the turn was proven");
        }
    }

    private void checkWatchedBehind(int prover, int slept) {
        int next = turns.nextWatched(slept, tick);
        if (next == NONE || turns.watcherIn(next) != prover || !turns.wasAwake(next)) {
            throw new IllegalStateException("the prover was not awake as the next watcher");
        }
    }

    // ---- what the calls stand on: a tick

    private void moveMessages() {
        for (int i = 0; i < messages.size(); i++) {
            Message one = messages.get(i);
            if (one.how == ON_WAY) {
                moveOn(one);
            }
        }
    }

    private void moveOn(Message message) {
        message.place++;
        if (message.place >= message.way.hops) {
            deliver(message);
            return;
        }
        Node relay = nodeAt(message.way.nodeOn(message.place));
        if (relay.losses > 0) {
            relay.losses--;
            loseAt(message, relay);
        } else {
            message.receipts++;
            relay.receipts++;
        }
    }

    private void deliver(Message message) {
        message.how = DELIVERED;
        payReceipts(message);
        for (int place = 1; place <= message.receipts; place++) {
            nodeAt(message.way.nodeOn(place)).raiseTrust(TRUST_FOR_DELIVERY);
        }
    }

    private void loseAt(Message message, Node loser) {
        message.how = LOST;
        int had = payReceipts(message);
        message.back = message.way.cost - had;
        message.fromStake = loser.takeStake(had);
        nodeAt(message.way.nodeOn(0)).purse += message.back + message.fromStake;
        loser.lowerTrust(TRUST_OFF_FOR_LOSS);
    }

    private int payReceipts(Message message) {
        int together = 0;
        for (int place = 1; place <= message.receipts; place++) {
            int price = message.way.priceOn(place);
            Node relay = nodeAt(message.way.nodeOn(place));
            relay.purse += price;
            relay.got += price;
            together += price;
        }
        return together;
    }

    private void beginTick() {
        tick++;
        for (int i = 0; i < nodes.size(); i++) {
            Node one = nodes.get(i);
            if (one.how == LEAVING && one.goneTick <= tick) {
                one.beGone();
            }
        }
        turns.begin(tick, chooseWatcher());
    }

    private int chooseWatcher() {
        int joined = 0;
        for (int i = 0; i < nodes.size(); i++) {
            if (nodes.get(i).how == JOINED) {
                joined++;
            }
        }
        if (joined == 0) {
            return NONE;
        }
        int ahead = tick % joined;
        for (int i = 0; i < nodes.size(); i++) {
            if (nodes.get(i).how == JOINED) {
                if (ahead == 0) {
                    return i;
                }
                ahead--;
            }
        }
        return NONE;
    }

    private static final class Node {
        private int purse;
        private int stake;
        private int price;
        private int trust;
        private int how;
        private int goneTick;
        private int got;
        private int receipts;
        private int losses;
        /** A bit for each node, by its number. */
        private int links;

        private Node(int purse, int stake, int price) {
            this.purse = purse;
            this.stake = stake;
            this.price = price;
            trust = FIRST_TRUST;
            how = JOINED;
            goneTick = NONE;
        }

        private boolean isLinkedTo(int other) {
            return (links >> other & 1) != 0;
        }

        private void setLinkTo(int other, boolean is) {
            int bit = 1 << other;
            links = is ? links | bit : links & ~bit;
        }

        private boolean relays() {
            return how == JOINED && stake >= 2 * price;
        }

        /** What counts when ways are compared: a node that is trusted less seems dearer than it is. */
        private int weight() {
            return price + (MOST_TRUST - trust) / 10;
        }

        private void moveToStake(int money) {
            purse -= money;
            stake += money;
        }

        private int takeStake(int most) {
            int taken = Math.min(stake, most);
            stake -= taken;
            return taken;
        }

        private void raiseTrust(int by) {
            trust = Math.min(MOST_TRUST, trust + by);
        }

        private void lowerTrust(int by) {
            trust = Math.max(0, trust - by);
        }

        private void beGone() {
            how = GONE;
            goneTick = NONE;
            purse += stake;
            stake = 0;
        }
    }

    /** The nodes from a sender to an end, with the prices that those between have as it is found. */
    private static final class Way {
        private final int[] nodes;
        private final int[] prices;
        private int hops;
        private int cost;

        private Way() {
            nodes = new int[MOST_NODES];
            prices = new int[MOST_NODES];
        }

        private void startAt(int node) {
            hops = NONE;
            cost = 0;
            append(node, 0);
        }

        private void append(int node, int price) {
            int place = hops + 1;
            if (place < 0 || place >= nodes.length || place >= prices.length) {
                return;
            }
            hops = place;
            nodes[place] = node;
            prices[place] = price;
            cost += price;
        }

        private void copyFrom(Way other) {
            hops = NONE;
            cost = 0;
            for (int place = 0; place <= other.hops; place++) {
                append(other.nodeOn(place), other.priceOn(place));
            }
        }

        private int nodeOn(int place) {
            return place < 0 || place > hops || place >= nodes.length ? NONE : nodes[place];
        }

        private int priceOn(int place) {
            return place < 0 || place > hops || place >= prices.length ? 0 : prices[place];
        }
    }

    private static final class Message {
        private final Way way;
        private int how;
        /** Where on its way it is, from 0 for the sender. */
        private int place;
        /** The nodes that relay it have their receipts in the way's order, so a count tells whose they are. */
        private int receipts;
        private int back;
        private int fromStake;

        private Message(Way found) {
            way = new Way();
            way.copyFrom(found);
            how = ON_WAY;
        }

        private int receiptsPriceOf(int node) {
            int together = 0;
            for (int place = 1; place <= receipts; place++) {
                if (way.nodeOn(place) == node) {
                    together += way.priceOn(place);
                }
            }
            return together;
        }
    }

    /** Finds the way of a message. It keeps its rows, so that asking makes no new ones. */
    private static final class WaySearch {
        /** Above the best of any way, so that it tells that there is none. */
        private static final int FAR = 1000000;
        /** Above the hops of any way, so that hops decide only between ways of one weight. */
        private static final int HOPS_OF_A_WEIGHT = 100;

        /** For each node the best way from it to the end: its weight times HOPS_OF_A_WEIGHT, and its hops. */
        private final int[] best;
        private final Way found;

        private WaySearch() {
            best = new int[MOST_NODES];
            found = new Way();
        }

        private boolean find(ArrayList<Node> nodes, int from, int to) {
            weighAll(nodes, to);
            if (bestOf(from) == FAR) {
                return false;
            }
            found.startAt(from);
            int at = from;
            for (int hop = 1; hop < MOST_NODES && at != to; hop++) {
                at = lowestNext(nodes, at, to);
                found.append(at, at == to ? 0 : priceOf(nodes, at));
            }
            return at == to;
        }

        private void weighAll(ArrayList<Node> nodes, int to) {
            for (int at = 0; at < best.length; at++) {
                best[at] = at == to ? 0 : FAR;
            }
            boolean changed = true;
            for (int round = 0; round < MOST_NODES && changed; round++) {
                changed = false;
                for (int at = 0; at < nodes.size() && at < best.length; at++) {
                    int least = leastFrom(nodes, at, to);
                    if (least < best[at]) {
                        best[at] = least;
                        changed = true;
                    }
                }
            }
        }

        private int leastFrom(ArrayList<Node> nodes, int at, int to) {
            int least = FAR;
            for (int next = 0; next < nodes.size(); next++) {
                least = Math.min(least, overNext(nodes, at, next, to));
            }
            return least;
        }

        private int lowestNext(ArrayList<Node> nodes, int at, int to) {
            for (int next = 0; next < nodes.size(); next++) {
                if (overNext(nodes, at, next, to) == bestOf(at)) {
                    return next;
                }
            }
            return to;
        }

        private int overNext(ArrayList<Node> nodes, int at, int next, int to) {
            if (at < 0 || at >= nodes.size() || next < 0 || next >= nodes.size()) {
                return FAR;
            }
            if (!nodes.get(at).isLinkedTo(next)) {
                return FAR;
            }
            if (next == to) {
                return 1;
            }
            Node relay = nodes.get(next);
            int rest = bestOf(next);
            if (!relay.relays() || rest == FAR) {
                return FAR;
            }
            return relay.weight() * HOPS_OF_A_WEIGHT + 1 + rest;
        }

        private int bestOf(int node) {
            return node < 0 || node >= best.length ? FAR : best[node];
        }

        private static int priceOf(ArrayList<Node> nodes, int node) {
            return node < 0 || node >= nodes.size() ? 0 : nodes.get(node).price;
        }
    }

    /** The turn of this tick, and those that can be proven; a new one takes the row of one that can't any more. */
    private static final class Turns {
        private static final int ROWS = PROVABLE_TICKS + 1;

        private final int[] watchers;
        private final boolean[] awake;
        private final boolean[] proven;

        private Turns() {
            watchers = new int[ROWS];
            awake = new boolean[ROWS];
            proven = new boolean[ROWS];
            for (int row = 0; row < watchers.length; row++) {
                watchers[row] = NONE;
            }
        }

        private void begin(int tick, int watcher) {
            int row = rowOf(tick);
            if (isRow(row)) {
                watchers[row] = watcher;
                awake[row] = false;
                proven[row] = false;
            }
        }

        private int watcherIn(int tick) {
            int row = rowOf(tick);
            return isRow(row) ? watchers[row] : NONE;
        }

        private boolean wasAwake(int tick) {
            int row = rowOf(tick);
            return isRow(row) && awake[row];
        }

        private void setAwake(int tick) {
            int row = rowOf(tick);
            if (isRow(row)) {
                awake[row] = true;
            }
        }

        private boolean wasProven(int tick) {
            int row = rowOf(tick);
            return isRow(row) && proven[row];
        }

        private void setProven(int tick) {
            int row = rowOf(tick);
            if (isRow(row)) {
                proven[row] = true;
            }
        }

        /** The first tick behind this one and ahead of the end that had a watcher. */
        private int nextWatched(int tick, int end) {
            for (int next = tick + 1; next < end && next <= tick + PROVABLE_TICKS; next++) {
                if (watcherIn(next) != NONE) {
                    return next;
                }
            }
            return NONE;
        }

        private static int rowOf(int tick) {
            return Math.floorMod(tick, ROWS);
        }

        private boolean isRow(int row) {
            return row >= 0 && row < watchers.length && row < awake.length && row < proven.length;
        }
    }
}
