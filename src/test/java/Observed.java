/** All that can be asked of an object, as a text. It changes the object: prices, losses and links show only by being set. */
final class Observed {
    private static final int LAST_TICK = 5000;

    private Observed() {
    }

    static String all(RelayStakes x) {
        StringBuilder text = new StringBuilder();
        int nodes = count(node -> x.nodeIs(node, 0));
        int messages = count(message -> x.message(message, 0));
        text.append("watcher ").append(x.watcher()).append(" money ").append(x.money());
        for (int node = 0; node < nodes; node++) {
            addNode(text, x, node);
        }
        for (int message = 0; message < messages; message++) {
            addMessage(text, x, message);
        }
        for (int node = 0; node + 1 < nodes; node++) {
            text.append(" cost ").append(x.cost(node, node + 1));
            text.append(" linked ").append(x.link(node, node + 1, true));
        }
        for (int node = 0; node < nodes; node++) {
            text.append(" price ").append(x.price(node, 0));
            text.append(" losses ").append(x.lose(node, 0));
        }
        String tick = Answer.of(() -> x.pass(1));
        text.append(" tick ").append(tick).append(" proofs");
        addProofs(text, x, nodes, tick.startsWith("throws.") ? LAST_TICK : Integer.parseInt(tick));
        addOneMore(text, x, nodes);
        return text.toString();
    }

    private static void addProofs(StringBuilder text, RelayStakes x, int nodes, int tick) {
        for (int slept = Math.max(0, tick - 12); slept < tick; slept++) {
            for (int node = 0; node < nodes; node++) {
                int prover = node;
                int told = slept;
                text.append(' ').append(Answer.of(() -> x.prove(prover, told)));
            }
        }
    }

    /** A node that comes now is linked with none. */
    private static void addOneMore(StringBuilder text, RelayStakes x, int nodes) {
        String made = Answer.of(() -> x.node(1, 2, 3));
        text.append(" one more ").append(made);
        for (int node = 0; node < nodes && !made.startsWith("throws."); node++) {
            text.append(' ').append(x.link(node, nodes, false));
            text.append(' ').append(x.link(nodes, node, false));
        }
    }

    private static void addNode(StringBuilder text, RelayStakes x, int node) {
        text.append(" node ").append(node);
        for (int what = 0; what <= 6; what++) {
            text.append(' ').append(x.nodeIs(node, what));
        }
        text.append(' ').append(x.paidAnew(node));
    }

    private static void addMessage(StringBuilder text, RelayStakes x, int message) {
        text.append(" message ").append(message);
        for (int what = 0; what <= 5; what++) {
            text.append(' ').append(x.message(message, what));
        }
        text.append(" way");
        int node = 0;
        for (int place = 0; place < 13 && node != RelayStakes.NONE; place++) {
            node = x.way(message, place);
            text.append(' ').append(node);
        }
    }

    private interface Asked {
        long at(int number);
    }

    private static int count(Asked asked) {
        int number = 0;
        while (number < 100 && !Answer.of(numberOf(asked, number)).startsWith("throws.")) {
            number++;
        }
        return number;
    }

    private static java.util.function.LongSupplier numberOf(Asked asked, int number) {
        return () -> asked.at(number);
    }
}
