import java.util.ArrayList;
import java.util.HashSet;
import java.util.List;
import java.util.Set;

/** The document's words in their plainest form, to compare with: every way is walked, and every tick and receipt is kept. */
final class Model {
    private static final class N {
        int purse, stake, price, trust = 50, how = 0, gone = -1, losses = 0;
    }

    private static final class M {
        List<Integer> way;
        List<Integer> prices;
        int how = 0, place = 0, back = 0, fromStake = 0;
        List<Integer> receipts = new ArrayList<>();
    }

    private final List<N> nodes = new ArrayList<>();
    private final Set<Integer> links = new HashSet<>();
    private final List<M> messages = new ArrayList<>();
    private final List<Integer> watchers = new ArrayList<>(List.of(-1));
    private final Set<Integer> awake = new HashSet<>();
    private final Set<Integer> proven = new HashSet<>();
    private int tick = 0;

    private List<Integer> bestWay;
    private int bestWeight;

    private static void out(boolean is) {
        if (is) {
            throw new IllegalArgumentException();
        }
    }

    private static void state(boolean is) {
        if (is) {
            throw new IllegalStateException();
        }
    }

    private N n(int node) {
        if (node < 0 || node >= nodes.size()) {
            throw new IndexOutOfBoundsException();
        }
        return nodes.get(node);
    }

    private M m(int message) {
        if (message < 0 || message >= messages.size()) {
            throw new IndexOutOfBoundsException();
        }
        return messages.get(message);
    }

    private static int key(int node, int other) {
        return Math.min(node, other) * 100 + Math.max(node, other);
    }

    int nodes() {
        return nodes.size();
    }

    int messages() {
        return messages.size();
    }

    int tick() {
        return tick;
    }

    /** The watcher of the first tick behind this one that had one; -1 without. */
    int nextWatcher(int slept) {
        for (int t = slept + 1; t < tick; t++) {
            if (t > 0 && watchers.get(t) != -1) {
                return watchers.get(t);
            }
        }
        return -1;
    }

    int node(int purse, int stake, int price) {
        out(purse < 0 || purse > 9999 || stake < 0 || stake > 999 || price < 0 || price > 50);
        state(nodes.size() == 12);
        N made = new N();
        made.purse = purse;
        made.stake = stake;
        made.price = price;
        nodes.add(made);
        return nodes.size() - 1;
    }

    int link(int node, int other, boolean is) {
        n(node);
        n(other);
        out(node == other);
        boolean was = links.contains(key(node, other));
        if (is) {
            links.add(key(node, other));
        } else {
            links.remove(key(node, other));
        }
        return was ? 1 : 0;
    }

    int price(int node, int price) {
        int before = n(node).price;
        out(price < 0 || price > 50);
        n(node).price = price;
        return before;
    }

    int put(int node, int money) {
        N one = n(node);
        out(money < 1 || money > 9999);
        state(one.purse < money || one.how == 2);
        one.purse -= money;
        return one.stake += money;
    }

    int leave(int node) {
        N one = n(node);
        state(one.how != 0);
        one.how = 1;
        return one.gone = tick + 15;
    }

    int join(int node, int money) {
        N one = n(node);
        out(money < 0 || money > 9999);
        state(one.how == 0 || one.purse < money || one.how == 2 && money == 0);
        one.how = 0;
        one.gone = -1;
        one.purse -= money;
        return one.stake += money;
    }

    private void walk(List<Integer> way, int to, int weight) {
        if (bestWay != null && (weight > bestWeight || weight == bestWeight && way.size() >= bestWay.size())) {
            return;
        }
        int at = way.get(way.size() - 1);
        if (at == to) {
            bestWay = new ArrayList<>(way);
            bestWeight = weight;
            return;
        }
        N here = nodes.get(at);
        if (way.size() > 1 && (here.how != 0 || here.stake < 2 * here.price)) {
            return;
        }
        int more = way.size() > 1 ? here.price + (100 - here.trust) / 10 : 0;
        for (int next = 0; next < nodes.size(); next++) {
            if (links.contains(key(at, next)) && !way.contains(next)) {
                way.add(next);
                walk(way, to, weight + more);
                way.remove(way.size() - 1);
            }
        }
    }

    private List<Integer> find(int node, int to) {
        bestWay = null;
        walk(new ArrayList<>(List.of(node)), to, 0);
        return bestWay;
    }

    private List<Integer> pricesOf(List<Integer> way) {
        List<Integer> prices = new ArrayList<>();
        for (int i = 0; i < way.size(); i++) {
            prices.add(i == 0 || i == way.size() - 1 ? 0 : nodes.get(way.get(i)).price);
        }
        return prices;
    }

    private static int sum(List<Integer> numbers) {
        return numbers.stream().mapToInt(x -> x).sum();
    }

    int send(int node, int to) {
        n(node);
        n(to);
        out(node == to);
        state(messages.size() == 60);
        List<Integer> way = find(node, to);
        state(way == null || nodes.get(node).purse < sum(pricesOf(way)));
        M made = new M();
        made.way = way;
        made.prices = pricesOf(way);
        nodes.get(node).purse -= sum(made.prices);
        messages.add(made);
        return messages.size() - 1;
    }

    int cost(int node, int to) {
        n(node);
        n(to);
        out(node == to);
        List<Integer> way = find(node, to);
        return way == null ? -1 : sum(pricesOf(way));
    }

    int lose(int node, int told) {
        int before = n(node).losses;
        out(told < 0 || told > 9);
        n(node).losses = told;
        return before;
    }

    int message(int message, int what) {
        M one = m(message);
        out(what < 0 || what > 5);
        int[] all = {one.how, one.way.get(one.place), sum(one.prices), one.back, one.receipts.size(), one.fromStake};
        return all[what];
    }

    int way(int message, int place) {
        M one = m(message);
        if (place < 0) {
            throw new IndexOutOfBoundsException();
        }
        return place < one.way.size() ? one.way.get(place) : -1;
    }

    int wake(int node) {
        n(node);
        if (watchers.get(tick) == node) {
            awake.add(tick);
            return 1;
        }
        return 0;
    }

    int prove(int node, int told) {
        N prover = n(node);
        out(told < 0 || told > 9999);
        state(told >= tick || told < tick - 10 || watchers.get(told) == -1);
        state(awake.contains(told) || watchers.get(told) == node || proven.contains(told));
        int next = told + 1;
        while (next < tick && watchers.get(next) == -1) {
            next++;
        }
        state(next >= tick || watchers.get(next) != node || !awake.contains(next));
        N sleeper = nodes.get(watchers.get(told));
        int had = Math.min(10, sleeper.stake);
        sleeper.stake -= had;
        prover.purse += had;
        sleeper.trust = Math.max(0, sleeper.trust - 10);
        proven.add(told);
        return had;
    }

    int watcher() {
        return watchers.get(tick);
    }

    int pass(int ticks) {
        out(ticks < 1 || ticks > 30);
        state(tick + ticks > 5000);
        for (int i = 0; i < ticks; i++) {
            for (M one : messages) {
                if (one.how == 0) {
                    go(one);
                }
            }
            tick++;
            begin();
        }
        return tick;
    }

    private void go(M one) {
        one.place++;
        N at = nodes.get(one.way.get(one.place));
        if (one.place == one.way.size() - 1) {
            one.how = 1;
            for (int place : one.receipts) {
                N relay = nodes.get(one.way.get(place));
                relay.purse += one.prices.get(place);
                relay.trust = Math.min(100, relay.trust + 1);
            }
        } else if (at.losses > 0) {
            at.losses--;
            one.how = 2;
            int had = 0;
            for (int place : one.receipts) {
                nodes.get(one.way.get(place)).purse += one.prices.get(place);
                had += one.prices.get(place);
            }
            one.back = sum(one.prices) - had;
            one.fromStake = Math.min(had, at.stake);
            at.stake -= one.fromStake;
            nodes.get(one.way.get(0)).purse += one.back + one.fromStake;
            at.trust = Math.max(0, at.trust - 20);
        } else {
            one.receipts.add(one.place);
        }
    }

    private void begin() {
        List<Integer> joined = new ArrayList<>();
        for (int node = 0; node < nodes.size(); node++) {
            N one = nodes.get(node);
            if (one.how == 1 && one.gone == tick) {
                one.how = 2;
                one.gone = -1;
                one.purse += one.stake;
                one.stake = 0;
            }
            if (one.how == 0) {
                joined.add(node);
            }
        }
        watchers.add(joined.isEmpty() ? -1 : joined.get(tick % joined.size()));
    }

    int nodeIs(int node, int what) {
        N one = n(node);
        out(what < 0 || what > 6);
        int receipts = 0;
        for (M m : messages) {
            for (int place : m.receipts) {
                receipts += m.way.get(place) == node ? 1 : 0;
            }
        }
        int[] all = {one.purse, one.stake, one.trust, one.how, paidAnew(node), receipts, one.gone};
        return all[what];
    }

    int paidAnew(int node) {
        n(node);
        int together = 0;
        for (M one : messages) {
            for (int place : one.receipts) {
                together += one.how != 0 && one.way.get(place) == node ? one.prices.get(place) : 0;
            }
        }
        return together;
    }

    int money() {
        int together = 0;
        for (N one : nodes) {
            together += one.purse + one.stake;
        }
        for (M one : messages) {
            together += one.how == 0 ? sum(one.prices) : 0;
        }
        return together;
    }
}
