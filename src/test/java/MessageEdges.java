/** The edges of messages that go on: the second half of 'Messages'. */
final class MessageEdges {
    private static final int ON_WAY = RelayStakes.ON_WAY;
    private static final int DELIVERED = RelayStakes.DELIVERED;
    private static final int LOST = RelayStakes.LOST;

    private MessageEdges() {
    }

    static void all(Edges edges) {
        edges.under("Messages");
        edges.of("each message that is on its way, by numbers, goes one hop on", MessageEdges::oneHop);
        edges.of("by numbers", MessageEdges::byNumbers);
        edges.of("from the sender at first", MessageEdges::fromTheSender);
        edges.of("When it comes to a node that relays, and a loss is told for that, it is LOST there", MessageEdges::lostThere);
        edges.of("and that loss is done", MessageEdges::lossIsDone);
        edges.of("otherwise that node has a receipt for it", MessageEdges::receipts);
        edges.of("goes on with it in the next tick, JOINED or not", MessageEdges::joinedOrNot);
        edges.of("When it comes to its end, it is DELIVERED", MessageEdges::delivered);
        edges.of("each node that relayed it has its price into its purse, and 1 more trust", MessageEdges::priceAndTrust);
        edges.of("those with a receipt have their prices, and no more trust", MessageEdges::pricesOfALostOne);
        edges.of("the rest of what is in the message goes back to the sender's purse", MessageEdges::theRest);
        edges.of("as much as they have from the stake of the one that lost it, as far as there is so much", MessageEdges::fromTheStake);
        edges.of("that one has 20 less trust, at least 0", MessageEdges::twentyLessTrust);
    }

    private static void oneHop(Due due) {
        RelayStakes x = Nets.overTen();
        for (int tick = 0; tick <= 13; tick++) {
            due.is("message(0, 1) in the tick " + tick, x.message(0, 1), Math.min(tick, 11));
            due.is("message(0, 0) in the tick " + tick, x.message(0, 0), tick < 11 ? ON_WAY : DELIVERED);
            due.is("message(0, 1), " + tick + " ticks at once", Nets.pass(Nets.overTen(), tick).message(0, 1), Math.min(tick, 11));
            x.pass(1);
        }
        RelayStakes lost = Nets.sent();
        lost.lose(1, 1);
        for (int tick = 1; tick <= 3; tick++) {
            lost.pass(1);
            due.is("message(0, 1), lost", lost.message(0, 1), 1);
        }
    }

    private static void byNumbers(Due due) {
        RelayStakes x = Nets.line(100, 40, 9, 14, 7);
        x.send(0, 3);
        x.send(0, 3);
        x.lose(2, 2);
        x.pass(2);
        due.is("message(0, 5), first, of a stake of 14", x.message(0, 5), 9);
        due.is("message(1, 5), second, of a stake of 5", x.message(1, 5), 5);
        RelayStakes y = Nets.overTwo();
        for (int i = 0; i < 3; i++) {
            y.send(0, 3);
        }
        y.lose(1, 1);
        y.pass(1);
        due.is("message(0, 0), one told to be lost", y.message(0, 0), LOST);
        due.is("message(1, 0), one told to be lost", y.message(1, 0), ON_WAY);
        due.is("message(2, 0), one told to be lost", y.message(2, 0), ON_WAY);
        RelayStakes z = Nets.overTwo();
        z.send(0, 3);
        z.pass(1);
        z.price(2, 0);
        z.send(1, 3);
        z.lose(2, 1);
        z.pass(1);
        due.is("message(0, 0), which was sent first", z.message(0, 0), LOST);
        due.is("message(1, 0), which was sent next", z.message(1, 0), ON_WAY);
        RelayStakes back = Nets.overTwo();
        back.price(2, 0);
        back.send(1, 3);
        back.send(0, 3);
        back.pass(1);
        back.lose(2, 1);
        due.is("message(0, 0), which came already", back.message(0, 0), ON_WAY);
        back.pass(1);
        due.is("message(1, 0), which comes now", back.message(1, 0), LOST);
    }

    private static void fromTheSender(Due due) {
        for (int tick : new int[] {0, 1, 5}) {
            RelayStakes x = Nets.pass(Nets.overTwo(), tick);
            x.price(2, 0);
            x.send(0, 3);
            x.send(3, 1);
            due.is("message(0, 1), sent in the tick " + tick, x.message(0, 1), 0);
            due.is("message(1, 1), sent in the tick " + tick, x.message(1, 1), 3);
            x.pass(1);
            due.is("message(0, 1), one tick behind", x.message(0, 1), 1);
            due.is("message(1, 1), one tick behind", x.message(1, 1), 2);
        }
    }

    private static void lostThere(Due due) {
        for (int told = 0; told <= 3; told++) {
            for (int at = 0; at <= 3; at++) {
                RelayStakes y = Nets.sent();
                for (int tick = 0; tick < 3; tick++) {
                    if (tick == told) {
                        y.lose(at, 1);
                    }
                    y.pass(1);
                }
                boolean comes = at > told && at < 3 && told < 3;
                String when = "lose(" + at + ", 1) in the tick " + told;
                due.is(when + ": message(0, 0)", y.message(0, 0), comes ? LOST : DELIVERED);
                due.is(when + ": message(0, 1)", y.message(0, 1), comes ? at : 3);
                due.is(when + ": lose(" + at + ", 0)", y.lose(at, 0), comes || told == 3 ? 0 : 1);
            }
        }
    }

    private static void lossIsDone(Due due) {
        for (int told : new int[] {1, 2, 9}) {
            RelayStakes x = Nets.line(100, 40, 1);
            x.lose(1, told);
            for (int left = told - 1; left >= 0; left--) {
                x.send(0, 2);
                x.pass(1);
                due.is("message(" + (told - 1 - left) + ", 0)", x.message(told - 1 - left, 0), LOST);
                due.is("lose(1, " + left + ") after one more of " + told, x.lose(1, left), left);
            }
            x.send(0, 2);
            x.pass(1);
            due.is("message(" + told + ", 0), none told any more", x.message(told, 0), ON_WAY);
        }
    }

    private static void receipts(Due due) {
        RelayStakes x = Nets.sent();
        int[][] want = {{0, 0, 0, 0, 0}, {1, 0, 1, 0, 0}, {2, 0, 1, 1, 0}, {2, 0, 1, 1, 0}, {2, 0, 1, 1, 0}};
        for (int tick = 0; tick < want.length; tick++) {
            due.is("message(0, 4) in the tick " + tick, x.message(0, 4), want[tick][0]);
            for (int node = 0; node < 4; node++) {
                due.is("nodeIs(" + node + ", 5) in the tick " + tick, x.nodeIs(node, 5), want[tick][node + 1]);
            }
            x.pass(1);
        }
        x.send(0, 3);
        x.lose(2, 1);
        x.pass(2);
        due.is("message(1, 4), lost at 2", x.message(1, 4), 1);
        due.is("nodeIs(1, 5), with two", x.nodeIs(1, 5), 2);
        due.is("nodeIs(2, 5), who lost the second", x.nodeIs(2, 5), 1);
    }

    private static void joinedOrNot(Due due) {
        for (int left = 0; left <= 2; left++) {
            for (int node = 0; node <= 3; node++) {
                RelayStakes x = Nets.sent();
                Nets.pass(x, left);
                x.leave(node);
                Nets.pass(x, 3 - left);
                String when = "leave(" + node + ") in the tick " + left;
                due.is(when + ": message(0, 0)", x.message(0, 0), DELIVERED);
                due.is(when + ": message(0, 4)", x.message(0, 4), 2);
                due.is(when + ": nodeIs(1, 0)", x.nodeIs(1, 0), 9);
                due.is(when + ": nodeIs(2, 0)", x.nodeIs(2, 0), 7);
                due.is(when + ": nodeIs(2, 2)", x.nodeIs(2, 2), 51);
            }
        }
        RelayStakes lost = Nets.sent();
        lost.leave(1);
        lost.leave(2);
        lost.lose(2, 1);
        lost.pass(2);
        due.is("message(0, 0), lost by one that is LEAVING", lost.message(0, 0), LOST);
        due.is("nodeIs(1, 0), LEAVING", lost.nodeIs(1, 0), 9);
        due.is("nodeIs(2, 1), LEAVING", lost.nodeIs(2, 1), 21);
        due.is("nodeIs(2, 2), LEAVING", lost.nodeIs(2, 2), 30);
    }

    private static void delivered(Due due) {
        RelayStakes x = Nets.overTwo();
        x.send(0, 1);
        x.send(0, 2);
        x.send(0, 3);
        for (int tick = 0; tick <= 4; tick++) {
            for (int message = 0; message < 3; message++) {
                String call = "message(" + message + ", 0) in the tick " + tick;
                due.is(call, x.message(message, 0), tick > message ? DELIVERED : ON_WAY);
            }
            x.pass(1);
        }
        RelayStakes told = Nets.sent();
        told.lose(3, 9);
        told.lose(0, 9);
        told.pass(3);
        due.is("message(0, 0), with losses told for its ends", told.message(0, 0), DELIVERED);
        due.is("lose(3, 0)", told.lose(3, 0), 9);
        due.is("lose(0, 0)", told.lose(0, 0), 9);
    }

    private static void priceAndTrust(Due due) {
        RelayStakes x = Nets.line(500, 100, 50, 0, 0, 2, 1);
        x.send(0, 4);
        x.pass(3);
        for (int node = 0; node < 5; node++) {
            due.is("nodeIs(" + node + ", 2), not yet at its end", x.nodeIs(node, 2), 50);
            due.is("nodeIs(" + node + ", 4), not yet at its end", x.nodeIs(node, 4), 0);
        }
        x.pass(1);
        int[] purses = {449, 50, 0, 1, 0};
        int[] trust = {50, 51, 51, 51, 50};
        for (int node = 0; node < 5; node++) {
            due.is("nodeIs(" + node + ", 0)", x.nodeIs(node, 0), purses[node]);
            due.is("nodeIs(" + node + ", 2)", x.nodeIs(node, 2), trust[node]);
        }
        RelayStakes most = Nets.line(60, 2, 1);
        for (int i = 0; i < 49; i++) {
            most.send(0, 2);
        }
        most.pass(2);
        for (int i = 0; i < 3; i++) {
            due.is("nodeIs(1, 2) after " + (49 + i), most.nodeIs(1, 2), Math.min(100, 99 + i));
            due.is("nodeIs(1, 0) after " + (49 + i), most.nodeIs(1, 0), 49 + i);
            most.send(0, 2);
            most.pass(2);
        }
    }

    private static void pricesOfALostOne(Due due) {
        int[] price = {0, 9, 7, 5, 0};
        for (int lost = 1; lost <= 3; lost++) {
            RelayStakes x = Nets.lostAt(lost);
            for (int node = 1; node <= 4; node++) {
                due.is("nodeIs(" + node + ", 0), lost at " + lost, x.nodeIs(node, 0), node < lost ? price[node] : 0);
                due.is("nodeIs(" + node + ", 4), lost at " + lost, x.nodeIs(node, 4), node < lost ? price[node] : 0);
                due.is("nodeIs(" + node + ", 2), lost at " + lost, x.nodeIs(node, 2), node == lost ? 30 : 50);
            }
            due.is("nodeIs(0, 2), lost at " + lost, x.nodeIs(0, 2), 50);
            x.pass(5);
            due.is("nodeIs(1, 0), lost at " + lost + ", later", x.nodeIs(1, 0), lost > 1 ? 9 : 0);
        }
    }

    private static void theRest(Due due) {
        int[] rest = {0, 21, 12, 5};
        int[] stake = {0, 0, 9, 16};
        for (int lost = 1; lost <= 3; lost++) {
            RelayStakes x = Nets.lostAt(lost);
            due.is("message(0, 3), lost at " + lost, x.message(0, 3), rest[lost]);
            due.is("nodeIs(0, 0), lost at " + lost, x.nodeIs(0, 0), 79 + rest[lost] + stake[lost]);
            due.is("money(), lost at " + lost, x.money(), 230);
        }
        due.is("message(0, 3), not lost", Nets.lostAt(4).message(0, 3), 0);
        due.is("nodeIs(0, 0), not lost", Nets.lostAt(4).nodeIs(0, 0), 79);
        RelayStakes free = Nets.line(5, 0, 0);
        free.send(0, 2);
        free.lose(1, 1);
        free.pass(1);
        due.is("message(0, 3), for nothing", free.message(0, 3), 0);
        due.is("nodeIs(0, 0), for nothing", free.nodeIs(0, 0), 5);
    }

    private static void fromTheStake(Due due) {
        int[][] stakeAndPrice = {{0, 0}, {1, 0}, {8, 4}, {9, 4}, {10, 4}, {999, 4}};
        for (int[] one : stakeAndPrice) {
            RelayStakes x = Nets.line(100, 40, 9, one[0], one[1]);
            x.send(0, 3);
            x.lose(2, 1);
            x.pass(2);
            int had = Math.min(9, one[0]);
            due.is("message(0, 5), a stake of " + one[0], x.message(0, 5), had);
            due.is("nodeIs(2, 1), a stake of " + one[0], x.nodeIs(2, 1), one[0] - had);
            due.is("nodeIs(0, 0), a stake of " + one[0], x.nodeIs(0, 0), 91 + had);
            due.is("nodeIs(1, 1), a stake of " + one[0], x.nodeIs(1, 1), 40);
        }
        RelayStakes first = Nets.lostAt(1);
        due.is("message(0, 5), none has a receipt", first.message(0, 5), 0);
        due.is("nodeIs(1, 1), none has a receipt", first.nodeIs(1, 1), 40);
        due.is("message(0, 5), two have receipts", Nets.lostAt(3).message(0, 5), 16);
        due.is("nodeIs(3, 1), two have receipts", Nets.lostAt(3).nodeIs(3, 1), 44);
    }

    private static void twentyLessTrust(Due due) {
        int[][] upDownTrust = {{0, 0, 50}, {50, 0, 100}, {49, 0, 99}, {9, 2, 19}, {10, 2, 20}, {11, 2, 21}, {11, 3, 1}, {0, 3, 0}};
        for (int[] one : upDownTrust) {
            RelayStakes x = Nets.trusted(one[0], one[1], 50);
            int before = one[2];
            due.is("nodeIs(2, 2) ahead of it", x.nodeIs(2, 2), before);
            x.price(2, 0);
            x.link(0, 3, false);
            x.lose(2, 1);
            int message = x.send(0, 1);
            x.pass(1);
            due.is("message(" + message + ", 0)", x.message(message, 0), LOST);
            due.is("nodeIs(2, 2) from " + before, x.nodeIs(2, 2), Math.max(0, before - 20));
            due.is("nodeIs(3, 2), another", x.nodeIs(3, 2), 50);
            due.is("nodeIs(0, 2), the sender", x.nodeIs(0, 2), 50);
        }
    }
}
