import java.util.Map;
import java.util.TreeMap;
import java.util.function.LongSupplier;

/** All promises: long runs of calls, each answer compared with the model's. The runs are the same each time. */
final class ManyRunsTest {
    private static final Due due = new Due("ManyRunsTest");
    private static final int RUNS = 3000;
    private static final int CALLS = 512;

    /** How often each call gave what kind of answer over all runs, so that a run that asks nothing new is seen. */
    private static final Map<String, Integer> kinds = new TreeMap<>();

    private final int run;
    private final Model model = new Model();
    private final RelayStakes x = new RelayStakes();
    private final int mostNodes;
    private final int mostPrice;
    private final int mostStake;
    private final int wrongOfHundred;
    private final int longPassOfHundred;
    private long seed;
    private int calls = 0;
    private boolean asDue = true;

    private ManyRunsTest(int run) {
        this.run = run;
        seed = run * 7919L + 17;
        mostNodes = 1 + below(13);
        mostPrice = new int[] {0, 3, 10, 50}[below(4)];
        mostStake = new int[] {0, 20, 120, 999}[below(4)];
        wrongOfHundred = new int[] {0, 2, 10}[below(3)];
        longPassOfHundred = run % 10 == 0 ? 60 : 5;
    }

    public static void main(String[] args) {
        for (int run = 0; run < RUNS; run++) {
            new ManyRunsTest(run).go();
        }
        if (args.length > 0) {
            System.out.println(kinds);
        }
        everyKindIsSeen();
        due.end();
    }

    private int below(int most) {
        seed = seed * 6364136223846793005L + 1442695040888963407L;
        return (int) ((seed >>> 33) % most);
    }

    private boolean wrong() {
        return below(100) < wrongOfHundred;
    }

    private int wrongNumber() {
        int[] numbers = {-1, -2, 12, 13, 60, 61, 1000, 10000, Integer.MAX_VALUE, Integer.MIN_VALUE};
        return numbers[below(numbers.length)];
    }

    private int aNode() {
        return wrong() ? wrongNumber() : below(Math.max(1, model.nodes()));
    }

    private int aMessage() {
        return wrong() ? wrongNumber() : below(Math.max(1, model.messages()));
    }

    private int upTo(int most) {
        return wrong() ? below(2) == 0 ? wrongNumber() : most + 1 : below(most + 1);
    }

    private void go() {
        for (int i = below(mostNodes) + 1; i > 0; i--) {
            tell();
        }
        for (int i = below(3 * mostNodes); i > 0; i--) {
            join();
        }
        if (run % 50 == 0) {
            passToTheLastTicks();
        }
        while (calls < CALLS && asDue) {
            any(below(100));
        }
    }

    private void passToTheLastTicks() {
        for (int i = 0; i < 163; i++) {
            call("pass", 30, 0, 0, () -> x.pass(30), () -> model.pass(30));
        }
    }

    private void any(int kind) {
        if (kind < 1 && model.nodes() < mostNodes) {
            tell();
        } else if (kind < 6) {
            join();
        } else if (kind < 18) {
            ofNodes(below(5));
        } else if (kind < 45) {
            ofMessages(below(12));
        } else if (kind < 80) {
            ofWatchers(below(10));
        } else {
            asking(below(8));
        }
    }

    private void tell() {
        int purse = upTo(below(4) == 0 ? 9999 : 300);
        int stake = upTo(mostStake);
        int price = upTo(mostPrice);
        call("node", purse, stake, price, () -> x.node(purse, stake, price), () -> model.node(purse, stake, price));
    }

    private void join() {
        int node = aNode();
        int other = aNode();
        boolean is = below(8) > 0;
        call("link", node, other, is ? 1 : 0, () -> Answer.bit(x.link(node, other, is)), () -> model.link(node, other, is));
    }

    private void ofNodes(int kind) {
        int node = aNode();
        if (kind == 0) {
            int price = upTo(below(3) == 0 ? 50 : mostPrice);
            call("price", node, price, 0, () -> x.price(node, price), () -> model.price(node, price));
        } else if (kind == 1) {
            int money = upTo(below(4) == 0 ? 9999 : 40);
            call("put", node, money, 0, () -> x.put(node, money), () -> model.put(node, money));
        } else if (kind == 2) {
            call("leave", node, 0, 0, () -> x.leave(node), () -> model.leave(node));
        } else {
            int money = below(2) == 0 ? 0 : upTo(below(4) == 0 ? 9999 : 40);
            call("join", node, money, 0, () -> x.join(node, money), () -> model.join(node, money));
        }
    }

    private void ofMessages(int kind) {
        int node = aNode();
        int to = aNode();
        int message = aMessage();
        if (kind < 4) {
            call("send", node, to, 0, () -> x.send(node, to), () -> model.send(node, to));
        } else if (kind < 6) {
            call("cost", node, to, 0, () -> x.cost(node, to), () -> model.cost(node, to));
        } else if (kind < 7) {
            int told = upTo(below(3) == 0 ? 9 : 1);
            call("lose", node, told, 0, () -> x.lose(node, told), () -> model.lose(node, told));
        } else if (kind < 10) {
            int what = upTo(5);
            call("message", message, what, 0, () -> x.message(message, what), () -> model.message(message, what));
        } else {
            int place = upTo(12);
            call("way", message, place, 0, () -> x.way(message, place), () -> model.way(message, place));
        }
    }

    private void ofWatchers(int kind) {
        if (kind < 3) {
            int node = below(4) == 0 ? aNode() : model.watcher();
            call("wake", node, 0, 0, () -> Answer.bit(x.wake(node)), () -> model.wake(node));
        } else if (kind < 6) {
            int tick = below(20) == 0 ? upTo(9999) : model.tick() - below(13);
            int node = below(4) == 0 ? aNode() : model.nextWatcher(tick);
            call("prove", node, tick, 0, () -> x.prove(node, tick), () -> model.prove(node, tick));
        } else if (kind < 7) {
            call("watcher", 0, 0, 0, () -> x.watcher(), () -> model.watcher());
        } else {
            int ticks = wrong() ? wrongNumber() : below(100) < longPassOfHundred ? 1 + below(30) : 1;
            call("pass", ticks, 0, 0, () -> x.pass(ticks), () -> model.pass(ticks));
        }
    }

    private void asking(int kind) {
        int node = aNode();
        if (kind < 5) {
            int what = upTo(6);
            call("nodeIs", node, what, 0, () -> x.nodeIs(node, what), () -> model.nodeIs(node, what));
        } else if (kind < 7) {
            call("paidAnew", node, 0, 0, () -> x.paidAnew(node), () -> model.paidAnew(node));
        } else {
            call("money", 0, 0, 0, () -> x.money(), () -> model.money());
        }
    }

    private void call(String name, int a, int b, int c, LongSupplier ofClass, LongSupplier ofModel) {
        if (calls == CALLS || !asDue) {
            return;
        }
        calls++;
        String got = Answer.of(ofClass);
        String want = Answer.of(ofModel);
        due.same("run " + run + ", call " + calls + ": " + name + " " + a + " " + b + " " + c, got, want);
        asDue = got.equals(want);
        kinds.merge(name + (want.startsWith("throws.") ? " " + want : want.equals("-1") ? " NONE" : ""), 1, Integer::sum);
    }

    private static void everyKindIsSeen() {
        String[] seen = {"node", "link", "price", "put", "leave", "join", "send", "cost", "lose", "message", "way", "wake",
            "prove", "watcher", "pass", "nodeIs", "paidAnew", "money", "cost NONE", "way NONE", "watcher NONE",
            "nodeIs NONE", "put throws.IllegalStateException", "join throws.IllegalStateException",
            "send throws.IllegalStateException", "prove throws.IllegalStateException", "pass throws.IllegalStateException",
            "node throws.IllegalStateException", "leave throws.IllegalStateException"};
        for (String kind : seen) {
            due.is("there is an answer of the kind " + kind, kinds.getOrDefault(kind, 0) > 0, true);
        }
    }
}
