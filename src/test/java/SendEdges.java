/** The edges of promises 8 to 12: sending messages, losing them and asking of them. */
final class SendEdges {
    private static final Class<IndexOutOfBoundsException> NO_SUCH = IndexOutOfBoundsException.class;
    private static final Class<IllegalArgumentException> OUT = IllegalArgumentException.class;
    private static final Class<IllegalStateException> STATE = IllegalStateException.class;
    private static final int ON_WAY = RelayStakes.ON_WAY;
    private static final int DELIVERED = RelayStakes.DELIVERED;
    private static final int LOST = RelayStakes.LOST;

    private SendEdges() {
    }

    static void all(Edges edges) {
        sending(edges);
        losing(edges);
        asking(edges);
    }

    private static void sending(Edges edges) {
        edges.under("Promise 8: send");
        edges.of("Sends a message.", SendEdges::sends);
        edges.of("Returns its number.", SendEdges::numberOfAMessage);
        edges.of("Throws `IndexOutOfBoundsException` if there is no such node, of either",
            due -> due.noSuchOfEither("send", 3, Nets::ring, (x, node, to) -> x.send(node, to)));
        edges.of("Throws `IllegalArgumentException` if both are the same",
            due -> due.bothTheSame("send", 3, Nets::ring, (x, node, to) -> x.send(node, to)));
        edges.of("Throws `IllegalStateException` if there are 60", SendEdges::sendWithSixty);
        edges.of("there is no way", SendEdges::sendWithoutAWay);
        edges.of("or the purse of the sender has not enough", SendEdges::sendWithoutEnough);
        edges.under("Promise 9: cost");
        edges.of("Returns what a message would cost now.", SendEdges::costNow);
        edges.of("Returns the prices, together", SendEdges::costTogether);
        edges.of("NONE without a way", SendEdges::costWithoutAWay);
        edges.of("Throws `IndexOutOfBoundsException` if there is no such node, of either",
            due -> due.noSuchOfEither("cost", 3, Nets::ring, (x, node, to) -> x.cost(node, to)));
        edges.of("Throws `IllegalArgumentException` if both are the same",
            due -> due.bothTheSame("cost", 3, Nets::ring, (x, node, to) -> x.cost(node, to)));
    }

    private static void losing(Edges edges) {
        edges.under("Promise 10: lose");
        edges.of("how many of the next messages that come to a node to be relayed it loses", SendEdges::losesTheNext);
        edges.of("in place of what was told", SendEdges::inPlace);
        edges.of("`messages`: 0 to 9", SendEdges::howManyToLose);
        edges.of("Returns how many were told yet.", SendEdges::toldYet);
        edges.of("Throws `IndexOutOfBoundsException` if there is no such node",
            due -> due.range("lose(node, 1)", 0, 2, NO_SUCH, Nets::ring, (x, node) -> x.lose(node, 1)));
        edges.of("Throws `IllegalArgumentException` if messages is out of range",
            due -> due.range("lose(1, messages)", 0, 9, OUT, Nets::ring, (x, told) -> x.lose(1, told)));
    }

    private static void asking(Edges edges) {
        edges.under("Promise 11: message");
        edges.of("Tells of a message.", SendEdges::tellsOfEach);
        edges.of("0 how it is", SendEdges::howItIs);
        edges.of("1 the node at which it is, or was last", SendEdges::whereItIs);
        edges.of("2 what was paid for it", SendEdges::whatWasPaid);
        edges.of("3 what went back to the sender", SendEdges::whatWentBack);
        edges.of("4 how many receipts there are for it", SendEdges::howManyReceipts);
        edges.of("5 what the sender had from a stake", SendEdges::whatCameFromAStake);
        edges.of("Throws `IndexOutOfBoundsException` if there is no such message", SendEdges::noSuchMessage);
        edges.of("Throws `IllegalArgumentException` if what is out of range",
            due -> due.range("message(1, what)", 0, 5, OUT, Nets::twoSent, (x, what) -> x.message(1, what)));
        edges.under("Promise 12: way");
        edges.of("Returns a node of the way of a message.", SendEdges::nodesOfWays);
        edges.of("`place`: 0 for the sender", SendEdges::placeOfTheSender);
        edges.of("NONE behind the last one", SendEdges::behindTheLast);
        edges.of("Throws `IndexOutOfBoundsException` if there is no such message", SendEdges::wayOfNoMessage);
        edges.of("or place is below 0", SendEdges::placeBelowZero);
    }

    private static RelayStakes sixty() {
        RelayStakes x = Nets.overTwo();
        for (int i = 0; i < 60; i++) {
            x.send(2, 3);
        }
        return x;
    }

    private static void sends(Due due) {
        RelayStakes x = Nets.overTwo();
        x.send(0, 3);
        due.way("send(0, 3)", x, 0, 0, 1, 2, 3);
        int[] want = {ON_WAY, 0, 16, 0, 0, 0};
        for (int what = 0; what < want.length; what++) {
            due.is("message(0, " + what + ")", x.message(0, what), want[what]);
        }
    }

    private static void numberOfAMessage(Due due) {
        RelayStakes x = Nets.overTwo();
        due.is("send(0, 3)", x.send(0, 3), 0);
        due.is("send(3, 2)", x.send(3, 2), 1);
        due.same("send(3, 0), with an empty purse", Answer.of(() -> x.send(3, 0)), "throws.IllegalStateException");
        due.same("send(3, 3)", Answer.of(() -> x.send(3, 3)), "throws.IllegalArgumentException");
        due.is("send(3, 2), after two that were refused", x.send(3, 2), 2);
        x.pass(5);
        due.is("send(0, 1), when all are delivered", x.send(0, 1), 3);
    }

    private static void sendWithSixty(Due due) {
        RelayStakes x = Nets.overTwo();
        for (int i = 0; i < 58; i++) {
            x.send(2, 3);
        }
        due.is("send(0, 3) with 58", x.send(0, 3), 58);
        due.is("send(0, 3) with 59", x.send(0, 3), 59);
        for (int tick = 0; tick < 4; tick++) {
            due.same("send(0, 3) with 60", Answer.of(() -> x.send(0, 3)), "throws.IllegalStateException");
            due.same("send(2, 3) with 60", Answer.of(() -> x.send(2, 3)), "throws.IllegalStateException");
            due.is("nodeIs(0, 0) with 60", x.nodeIs(0, 0), 68);
            due.is("money() with 60", x.money(), 170);
            due.is("cost(0, 3) with 60", x.cost(0, 3), 16);
            x.pass(1);
        }
        due.is("message(59, 0)", x.message(59, 0), DELIVERED);
        due.same("message(60, 0)", Answer.of(() -> x.message(60, 0)), "throws.IndexOutOfBoundsException");
    }

    private static void sendWithoutAWay(Due due) {
        due.fails("send(0, 1), not linked", STATE, () -> Nets.nodes(2), x -> x.send(0, 1));
        due.answers("send(0, 1), linked", 0, () -> Nets.link(Nets.nodes(2), 0, 1), x -> x.send(0, 1));
        due.fails("send(0, 2), over one with too small a stake", STATE, () -> Nets.line(100, 9, 5), x -> x.send(0, 2));
        due.answers("send(0, 2), over one with just enough", 0, () -> Nets.line(100, 10, 5), x -> x.send(0, 2));
        due.fails("send(0, 3), parted", STATE, SendEdges::parted, x -> x.send(0, 3));
        due.fails("send(3, 0), parted", STATE, SendEdges::parted, x -> x.send(3, 0));
        due.answers("send(0, 2), on this side", 0, SendEdges::parted, x -> x.send(0, 2));
    }

    private static RelayStakes parted() {
        RelayStakes x = Nets.overTwo();
        x.link(2, 3, false);
        return x;
    }

    private static void sendWithoutEnough(Due due) {
        due.fails("send(0, 3) with 0", STATE, () -> Nets.line(0, 40, 9, 30, 7), x -> x.send(0, 3));
        due.fails("send(0, 3) with 15", STATE, () -> Nets.line(15, 40, 9, 30, 7), x -> x.send(0, 3));
        due.answers("send(0, 3) with 16", 0, () -> Nets.line(16, 40, 9, 30, 7), x -> x.send(0, 3));
        due.answers("send(0, 3) with 17", 0, () -> Nets.line(17, 40, 9, 30, 7), x -> x.send(0, 3));
        due.answers("send(0, 1) with 0, for nothing", 0, () -> Nets.line(0, 40, 9, 30, 7), x -> x.send(0, 1));
        RelayStakes x = Nets.line(16, 40, 9, 30, 7);
        x.put(0, 1);
        due.same("send(0, 3) with 15, and a stake", Answer.of(() -> x.send(0, 3)), "throws.IllegalStateException");
        RelayStakes y = Nets.line(16, 40, 9, 30, 7);
        y.send(0, 3);
        due.is("nodeIs(0, 0), all of it paid", y.nodeIs(0, 0), 0);
        due.same("send(0, 3) anew", Answer.of(() -> y.send(0, 3)), "throws.IllegalStateException");
    }

    private static void costNow(Due due) {
        RelayStakes x = Nets.overTwo();
        due.is("cost(0, 3)", x.cost(0, 3), 16);
        due.is("cost(0, 3) anew", x.cost(0, 3), 16);
        due.is("nodeIs(0, 0), who asked", x.nodeIs(0, 0), 100);
        due.same("message(0, 0), when it was only asked", Answer.of(() -> x.message(0, 0)), "throws.IndexOutOfBoundsException");
        due.is("cost(3, 0), with an empty purse", x.cost(3, 0), 16);
        x.send(0, 3);
        x.price(1, 10);
        due.is("cost(0, 3), at another price", x.cost(0, 3), 17);
        due.is("message(0, 2), as it was sent", x.message(0, 2), 16);
        x.price(1, 20);
        due.is("cost(0, 3), at half the stake", x.cost(0, 3), 27);
        x.price(1, 21);
        due.is("cost(0, 3), above half the stake", x.cost(0, 3), -1);
    }

    private static void costTogether(Due due) {
        RelayStakes x = Nets.overTwo();
        due.is("cost(0, 1), over none", x.cost(0, 1), 0);
        due.is("cost(0, 2), over one", x.cost(0, 2), 9);
        due.is("cost(0, 3), over two", x.cost(0, 3), 16);
        due.is("cost(3, 0), the other way round", x.cost(3, 0), 16);
        due.is("cost(1, 3)", x.cost(1, 3), 7);
        due.is("cost(0, 11), over ten", Nets.overTen().cost(0, 11), 10);
        due.is("cost(0, 2), over one with a price of 0", Nets.line(0, 0, 0).cost(0, 2), 0);
    }

    private static void costWithoutAWay(Due due) {
        RelayStakes x = Nets.nodes(3);
        due.is("cost(0, 1), not linked", x.cost(0, 1), -1);
        Nets.link(x, 0, 1);
        due.is("cost(0, 1), linked", x.cost(0, 1), 0);
        due.is("cost(0, 2), not linked", x.cost(0, 2), -1);
        due.is("cost(2, 1), not linked", x.cost(2, 1), -1);
        due.is("cost(0, 3), parted", parted().cost(0, 3), -1);
        due.is("cost(3, 0), parted", parted().cost(3, 0), -1);
    }

    private static void losesTheNext(Due due) {
        for (int told : new int[] {0, 1, 2, 8, 9}) {
            RelayStakes x = Nets.line(100, 10, 1);
            x.lose(1, told);
            for (int i = 0; i < 11; i++) {
                x.send(0, 2);
            }
            x.send(0, 1);
            x.send(1, 2);
            x.pass(2);
            for (int message = 0; message < 11; message++) {
                due.is("message(" + message + ", 0) with " + told, x.message(message, 0), message < told ? LOST : DELIVERED);
            }
            due.is("message(11, 0), to it", x.message(11, 0), DELIVERED);
            due.is("message(12, 0), from it", x.message(12, 0), DELIVERED);
        }
        RelayStakes ends = Nets.overTwo();
        ends.lose(1, 2);
        ends.send(0, 1);
        ends.send(1, 0);
        ends.pass(1);
        due.is("lose(1, 2), after two that it does not relay", ends.lose(1, 2), 2);
    }

    private static void inPlace(Due due) {
        RelayStakes x = Nets.line(100, 10, 1);
        x.lose(1, 3);
        x.lose(1, 1);
        x.send(0, 2);
        x.send(0, 2);
        x.pass(1);
        due.is("message(0, 0), 1 in place of 3", x.message(0, 0), LOST);
        due.is("message(1, 0), 1 in place of 3", x.message(1, 0), ON_WAY);
        x.lose(1, 9);
        x.lose(1, 0);
        x.send(0, 2);
        x.pass(1);
        due.is("message(2, 0), 0 in place of 9", x.message(2, 0), ON_WAY);
        x.lose(1, 1);
        x.lose(1, 2);
        due.is("lose(1, 0), 2 in place of 1", x.lose(1, 0), 2);
    }

    private static void howManyToLose(Due due) {
        due.range("lose(0, messages)", 0, 9, OUT, () -> Nets.nodes(1), (x, told) -> x.lose(0, told));
        for (int told : new int[] {0, 1, 8, 9}) {
            RelayStakes x = Nets.nodes(1);
            x.lose(0, told);
            due.is("lose(0, 0) after " + told, x.lose(0, 0), told);
        }
        due.answers("lose(0, 9), GONE", 0, Nets::gone, x -> x.lose(0, 9));
    }

    private static void toldYet(Due due) {
        RelayStakes x = Nets.line(100, 10, 1);
        due.is("lose(1, 9) at first", x.lose(1, 9), 0);
        due.is("lose(1, 2)", x.lose(1, 2), 9);
        x.send(0, 2);
        due.is("lose(1, 2), none came yet", x.lose(1, 2), 2);
        x.pass(1);
        due.is("lose(1, 1), one came", x.lose(1, 1), 1);
        x.send(0, 2);
        x.pass(1);
        due.is("lose(1, 5), all came", x.lose(1, 5), 0);
        due.is("lose(0, 5), another", x.lose(0, 5), 0);
        due.same("lose(1, 10)", Answer.of(() -> x.lose(1, 10)), "throws.IllegalArgumentException");
        due.is("lose(1, 0), after one that was refused", x.lose(1, 0), 5);
    }

    private static void tellsOfEach(Due due) {
        RelayStakes x = Nets.overTwo();
        x.send(0, 3);
        x.send(3, 2);
        due.same("send(1, 3), with an empty purse", Answer.of(() -> x.send(1, 3)), "throws.IllegalStateException");
        x.lose(1, 1);
        x.pass(1);
        int[][] want = {{LOST, 1, 16, 16, 0, 0}, {DELIVERED, 2, 0, 0, 0, 0}};
        for (int message = 0; message < want.length; message++) {
            for (int what = 0; what <= 5; what++) {
                due.is("message(" + message + ", " + what + ")", x.message(message, what), want[message][what]);
            }
        }
        due.same("message(2, 0), which was refused", Answer.of(() -> x.message(2, 0)), "throws.IndexOutOfBoundsException");
    }

    private static void howItIs(Due due) {
        RelayStakes x = Nets.sent();
        int[] want = {ON_WAY, ON_WAY, ON_WAY, DELIVERED, DELIVERED};
        for (int tick = 0; tick < want.length; tick++) {
            due.is("message(0, 0) in the tick " + tick, x.message(0, 0), want[tick]);
            x.pass(1);
        }
        RelayStakes y = Nets.sent();
        y.lose(2, 1);
        int[] lost = {ON_WAY, ON_WAY, LOST, LOST, LOST};
        for (int tick = 0; tick < lost.length; tick++) {
            due.is("message(0, 0) in the tick " + tick + ", lost at 2", y.message(0, 0), lost[tick]);
            y.pass(1);
        }
    }

    private static void whereItIs(Due due) {
        RelayStakes x = Nets.line(100, 40, 9, 30, 7);
        x.send(3, 2);
        x.send(0, 3);
        int[] want = {0, 1, 2, 3, 3};
        for (int tick = 0; tick < want.length; tick++) {
            due.is("message(1, 1) in the tick " + tick, x.message(1, 1), want[tick]);
            due.is("message(0, 1) in the tick " + tick, x.message(0, 1), tick == 0 ? 3 : 2);
            x.pass(1);
        }
        for (int lost = 1; lost <= 3; lost++) {
            RelayStakes y = Nets.lostAt(lost);
            due.is("message(0, 1), lost at " + lost, y.message(0, 1), lost);
            y.pass(1);
            due.is("message(0, 1), lost at " + lost + ", later", y.message(0, 1), lost);
        }
    }

    private static void whatWasPaid(Due due) {
        RelayStakes x = Nets.overTwo();
        x.send(0, 1);
        x.send(0, 2);
        x.send(0, 3);
        int[] want = {0, 9, 16};
        for (int tick = 0; tick <= 4; tick++) {
            for (int message = 0; message < 3; message++) {
                due.is("message(" + message + ", 2) in the tick " + tick, x.message(message, 2), want[message]);
            }
            x.pass(1);
        }
        due.is("message(0, 2), lost", Nets.lostAt(2).message(0, 2), 21);
    }

    private static void whatWentBack(Due due) {
        for (int lost = 1; lost <= 4; lost++) {
            int[] want = {0, 21, 12, 5, 0};
            RelayStakes x = Nets.lostAt(lost);
            due.is("message(0, 3), lost at " + lost, x.message(0, 3), want[lost]);
            x.pass(2);
            due.is("message(0, 3), lost at " + lost + ", later", x.message(0, 3), want[lost]);
        }
        due.is("message(0, 3), ON_WAY", Nets.sent().message(0, 3), 0);
    }

    private static void howManyReceipts(Due due) {
        RelayStakes x = Nets.overTen();
        for (int tick = 0; tick <= 12; tick++) {
            due.is("message(0, 4) in the tick " + tick, x.message(0, 4), Math.min(tick, 10));
            x.pass(1);
        }
        for (int lost = 1; lost <= 3; lost++) {
            due.is("message(0, 4), lost at " + lost, Nets.lostAt(lost).message(0, 4), lost - 1);
        }
        RelayStakes next = Nets.overTwo();
        next.send(0, 1);
        next.pass(1);
        due.is("message(0, 4), next to it", next.message(0, 4), 0);
    }

    private static void whatCameFromAStake(Due due) {
        int[] want = {0, 0, 9, 16, 0};
        for (int lost = 1; lost <= 4; lost++) {
            RelayStakes x = Nets.lostAt(lost);
            due.is("message(0, 5), lost at " + lost, x.message(0, 5), want[lost]);
            x.pass(2);
            due.is("message(0, 5), lost at " + lost + ", later", x.message(0, 5), want[lost]);
        }
        due.is("message(0, 5), ON_WAY", Nets.sent().message(0, 5), 0);
    }

    private static void noSuchMessage(Due due) {
        due.range("message(message, 0)", 0, 1, NO_SUCH, Nets::twoSent, (x, message) -> x.message(message, 0));
        due.fails("message(2, 6)", NO_SUCH, Nets::twoSent, x -> x.message(2, 6));
        due.fails("message(-1, -1)", NO_SUCH, Nets::twoSent, x -> x.message(-1, -1));
        due.fails("message(0, 0), none sent", NO_SUCH, Nets::overTwo, x -> x.message(0, 0));
        RelayStakes x = sixty();
        due.is("message(59, 1) of 60", x.message(59, 1), 2);
        due.same("message(60, 1) of 60", Answer.of(() -> x.message(60, 1)), "throws.IndexOutOfBoundsException");
    }

    private static void nodesOfWays(Due due) {
        RelayStakes x = Nets.overTwo();
        x.send(0, 3);
        x.send(2, 1);
        due.way("two sent", x, 0, 0, 1, 2, 3);
        due.way("two sent", x, 1, 2, 1);
        x.link(1, 2, false);
        x.lose(1, 1);
        x.pass(1);
        due.way("lost, and parted", x, 0, 0, 1, 2, 3);
        due.way("delivered, and parted", x, 1, 2, 1);
    }

    private static void placeOfTheSender(Due due) {
        RelayStakes x = Nets.overTwo();
        for (int node = 0; node < 4; node++) {
            int message = x.send(node, node == 3 ? 2 : node + 1);
            due.is("way(" + message + ", 0)", x.way(message, 0), node);
            due.is("way(" + message + ", 1)", x.way(message, 1), node == 3 ? 2 : node + 1);
        }
        x.pass(1);
        due.is("way(0, 0), delivered", x.way(0, 0), 0);
    }

    private static void behindTheLast(Due due) {
        RelayStakes x = Nets.overTen();
        x.send(11, 10);
        for (int place = 0; place < 12; place++) {
            due.is("way(0, " + place + ")", x.way(0, place), place);
        }
        for (int place : new int[] {12, 13, 60, Integer.MAX_VALUE}) {
            due.is("way(0, " + place + ")", x.way(0, place), -1);
        }
        due.is("way(1, 1)", x.way(1, 1), 10);
        for (int place : new int[] {2, 3, 11, 12, Integer.MAX_VALUE}) {
            due.is("way(1, " + place + ")", x.way(1, place), -1);
        }
    }

    private static void wayOfNoMessage(Due due) {
        due.range("way(message, 0)", 0, 1, NO_SUCH, Nets::twoSent, (x, message) -> x.way(message, 0));
        due.fails("way(0, 0), none sent", NO_SUCH, Nets::overTwo, x -> x.way(0, 0));
        due.fails("way(2, 99)", NO_SUCH, Nets::twoSent, x -> x.way(2, 99));
    }

    private static void placeBelowZero(Due due) {
        for (int place : new int[] {-1, -2, Integer.MIN_VALUE}) {
            due.fails("way(0, " + place + ")", NO_SUCH, Nets::twoSent, x -> x.way(0, place));
            due.fails("way(2, " + place + ")", NO_SUCH, Nets::twoSent, x -> x.way(2, place));
        }
        due.answers("way(0, 0)", 0, Nets::twoSent, x -> x.way(0, 0));
        due.answers("way(0, 1)", 1, Nets::twoSent, x -> x.way(0, 1));
    }
}
