/** Promises 8 to 12: the calls that tell of messages. */
final class MessagesTest {
    private static final Due due = new Due("MessagesTest");
    private static final Class<IndexOutOfBoundsException> NO_SUCH = IndexOutOfBoundsException.class;
    private static final Class<IllegalArgumentException> OUT = IllegalArgumentException.class;
    private static final Class<IllegalStateException> STATE = IllegalStateException.class;

    public static void main(String[] args) {
        promise8Send();
        promise8SendThrows();
        promise8PricesOfTheWayStay();
        promise9Cost();
        promise9TheLeastPricesTogether();
        promise9TrustCounts();
        promise9ATenthIsRoundedDown();
        promise9TheFewestHops();
        promise9TheLowestFirst();
        promise9WhoRelays();
        promise9SenderAndEndMayBeGone();
        promise9ALongWay();
        promise10Lose();
        promise10LossesByNumbers();
        promise11Delivered();
        promise11Lost();
        promise11LostAtTheFirst();
        promise11AStakeThatIsTooSmall();
        promise11OneThatLeftRelays();
        promise11Throws();
        promise12Way();
        due.end();
    }

    /** A line 0 - 1 - 2 - 3: node 0 has 100, node 1 relays for 5, node 2 for 7. */
    private static RelayStakes line() {
        RelayStakes x = new RelayStakes();
        x.node(100, 0, 0);
        x.node(0, 20, 5);
        x.node(0, 30, 7);
        x.node(0, 0, 0);
        link(x, 0, 1, 1, 2, 2, 3);
        return x;
    }

    private static RelayStakes sent() {
        RelayStakes x = line();
        x.send(0, 3);
        return x;
    }

    /** As many messages as there may be, between 2 and 3. */
    private static RelayStakes full() {
        RelayStakes x = line();
        for (int i = 0; i < 60; i++) {
            x.send(2, 3);
        }
        return x;
    }

    private static void link(RelayStakes x, int... pairs) {
        for (int i = 0; i + 1 < pairs.length; i += 2) {
            x.link(pairs[i], pairs[i + 1], true);
        }
    }

    private static void message(String when, RelayStakes x, int message, int... want) {
        for (int what = 0; what < want.length; what++) {
            due.is(when + ": message(" + message + ", " + what + ")", x.message(message, what), want[what]);
        }
    }

    private static void way(String when, RelayStakes x, int message, int... want) {
        for (int place = 0; place < want.length; place++) {
            due.is(when + ": way(" + message + ", " + place + ")", x.way(message, place), want[place]);
        }
        due.is(when + ": way(" + message + "), behind the last", x.way(message, want.length), -1);
    }

    private static void promise8Send() {
        RelayStakes x = line();
        due.is("send(0, 3)", x.send(0, 3), 0);
        due.is("nodeIs(0, 0), who paid", x.nodeIs(0, 0), 88);
        due.is("nodeIs(1, 0), who is paid later", x.nodeIs(1, 0), 0);
        due.is("money()", x.money(), 150);
        message("sent", x, 0, RelayStakes.ON_WAY, 0, 12, 0, 0, 0);
        due.is("send(3, 2), next to it", x.send(3, 2), 1);
        message("sent next to it", x, 1, RelayStakes.ON_WAY, 3, 0, 0, 0, 0);
        due.is("send(0, 2)", x.send(0, 2), 2);
        due.is("nodeIs(0, 0), who paid again", x.nodeIs(0, 0), 83);
        RelayStakes many = line();
        for (int i = 0; i < 60; i++) {
            due.is("send " + i, many.send(2, 3), i);
        }
    }

    private static RelayStakes withPurse(int purse) {
        RelayStakes x = new RelayStakes();
        x.node(purse, 0, 0);
        x.node(0, 20, 5);
        x.node(0, 0, 0);
        x.node(0, 0, 0);
        link(x, 0, 1, 1, 2);
        return x;
    }

    private static void promise8SendThrows() {
        due.answers("send(0, 2) with just enough", 0, () -> withPurse(5), x -> x.send(0, 2));
        due.fails("send(0, 2) with 1 too little", STATE, () -> withPurse(4), x -> x.send(0, 2));
        due.fails("send(0, 3), no way", STATE, () -> withPurse(5), x -> x.send(0, 3));
        due.fails("send(0, 4)", NO_SUCH, MessagesTest::sent, x -> x.send(0, 4));
        due.fails("send(4, 0)", NO_SUCH, MessagesTest::sent, x -> x.send(4, 0));
        due.fails("send(-1, 0)", NO_SUCH, MessagesTest::sent, x -> x.send(-1, 0));
        due.fails("send(0, -1)", NO_SUCH, MessagesTest::sent, x -> x.send(0, -1));
        due.fails("send(4, 4)", NO_SUCH, MessagesTest::sent, x -> x.send(4, 4));
        due.fails("send(3, 3)", OUT, MessagesTest::sent, x -> x.send(3, 3));
        RelayStakes x = full();
        due.same("send(3, 2), the 61st", Answer.of(() -> x.send(3, 2)), "throws.IllegalStateException");
        due.same("send(3, 3), the 61st", Answer.of(() -> x.send(3, 3)), "throws.IllegalArgumentException");
        due.same("send(0, 3), the 61st", Answer.of(() -> x.send(0, 3)), "throws.IllegalStateException");
        due.is("nodeIs(0, 0), who sent none", x.nodeIs(0, 0), 100);
        due.is("cost(3, 2) with 60 messages", x.cost(3, 2), 0);
        x.pass(1);
        due.same("send(3, 2), with 60 delivered", Answer.of(() -> x.send(3, 2)), "throws.IllegalStateException");
    }

    private static void promise8PricesOfTheWayStay() {
        RelayStakes x = sent();
        x.price(1, 10);
        x.price(2, 0);
        x.pass(3);
        due.is("nodeIs(1, 0), paid as it was sent", x.nodeIs(1, 0), 5);
        due.is("nodeIs(2, 0), paid as it was sent", x.nodeIs(2, 0), 7);
        due.is("paidAnew(1), as it was sent", x.paidAnew(1), 5);
        due.is("paidAnew(2), as it was sent", x.paidAnew(2), 7);
        due.is("message(0, 2), as it was sent", x.message(0, 2), 12);
        due.is("money()", x.money(), 150);
        due.is("cost(0, 3), anew", x.cost(0, 3), 10);
    }

    private static void promise9Cost() {
        RelayStakes x = line();
        due.is("cost(0, 1)", x.cost(0, 1), 0);
        due.is("cost(0, 2)", x.cost(0, 2), 5);
        due.is("cost(0, 3)", x.cost(0, 3), 12);
        due.is("cost(3, 0)", x.cost(3, 0), 12);
        due.is("cost(3, 0) with no purse, and it paid nothing", x.nodeIs(3, 0), 0);
        due.is("nodeIs(0, 0), who asked", x.nodeIs(0, 0), 100);
        x.link(2, 3, false);
        due.is("cost(0, 3) without a way", x.cost(0, 3), -1);
        due.fails("cost(0, 4)", NO_SUCH, MessagesTest::sent, y -> y.cost(0, 4));
        due.fails("cost(4, 0)", NO_SUCH, MessagesTest::sent, y -> y.cost(4, 0));
        due.fails("cost(-1, 0)", NO_SUCH, MessagesTest::sent, y -> y.cost(-1, 0));
        due.fails("cost(0, -1)", NO_SUCH, MessagesTest::sent, y -> y.cost(0, -1));
        due.fails("cost(4, 4)", NO_SUCH, MessagesTest::sent, y -> y.cost(4, 4));
        due.fails("cost(2, 2)", OUT, MessagesTest::sent, y -> y.cost(2, 2));
    }

    /** From 0 to 1, either over 2 alone, or over 3 and 4. */
    private static RelayStakes fork(int price2, int price3, int price4) {
        RelayStakes x = new RelayStakes();
        x.node(500, 0, 0);
        x.node(0, 0, 0);
        x.node(0, 900, price2);
        x.node(0, 900, price3);
        x.node(0, 900, price4);
        link(x, 0, 2, 2, 1, 0, 3, 3, 4, 4, 1);
        return x;
    }

    private static void promise9TheLeastPricesTogether() {
        due.is("cost: 20 against 7 and 7, with 5 for the trust of each", fork(20, 7, 7).cost(0, 1), 14);
        due.is("cost: 18 against 7 and 7, with 5 for the trust of each", fork(18, 7, 7).cost(0, 1), 18);
        RelayStakes x = fork(20, 7, 7);
        x.send(0, 1);
        way("20 against 7 and 7", x, 0, 0, 3, 4, 1);
        due.is("nodeIs(0, 0), who pays prices alone", x.nodeIs(0, 0), 486);
        RelayStakes y = fork(50, 1, 1);
        y.link(0, 1, true);
        due.is("cost next to it", y.cost(0, 1), 0);
    }

    private static void promise9TrustCounts() {
        RelayStakes x = fork(10, 0, 0);
        x.price(3, 3);
        x.price(4, 3);
        due.is("cost: 10 and 5 against 3 and 5 and 3 and 5", x.cost(0, 1), 10);
        x.lose(2, 1);
        x.send(0, 1);
        x.pass(1);
        due.is("message(0, 0), lost at 2", x.message(0, 0), RelayStakes.LOST);
        due.is("nodeIs(2, 2)", x.nodeIs(2, 2), 30);
        due.is("cost: 10 and 7 against 3 and 5 and 3 and 5", x.cost(0, 1), 6);
        x.send(0, 1);
        way("who is trusted more", x, 1, 0, 3, 4, 1);
    }

    private static void promise9ATenthIsRoundedDown() {
        RelayStakes x = fork(5, 0, 0);
        x.price(2, 6);
        due.is("trust 50 of 2: 6 and 5 against 0 and 5 and 0 and 5", x.cost(0, 1), 0);
        x.link(0, 3, false);
        x.send(0, 1);
        x.pass(2);
        due.is("nodeIs(2, 2)", x.nodeIs(2, 2), 51);
        x.link(0, 3, true);
        due.is("trust 51 of 2: 6 and 4 against 10, with fewer hops", x.cost(0, 1), 6);
        x.price(2, 7);
        due.is("trust 51 of 2: 7 and 4 against 10", x.cost(0, 1), 0);
    }

    private static void promise9TheFewestHops() {
        RelayStakes x = fork(16, 4, 2);
        x.send(0, 1);
        way("16 and 5 against 6 and 10", x, 0, 0, 3, 4, 1);
        RelayStakes y = fork(11, 4, 2);
        y.send(0, 1);
        way("11 and 5 against 6 and 10", y, 0, 0, 2, 1);
        RelayStakes z = new RelayStakes();
        z.node(500, 0, 0);
        z.node(0, 100, 0);
        z.node(0, 100, 0);
        z.node(0, 100, 5);
        z.node(0, 0, 0);
        link(z, 0, 1, 1, 2, 2, 4, 0, 3, 3, 4);
        z.send(0, 4);
        way("as light, with fewer hops over a higher node", z, 0, 0, 3, 4);
    }

    private static void promise9TheLowestFirst() {
        RelayStakes x = new RelayStakes();
        for (int i = 0; i < 7; i++) {
            x.node(500, 100, 3);
        }
        link(x, 6, 3, 3, 2, 2, 0, 6, 4, 4, 1, 1, 0, 3, 5, 5, 0);
        x.send(6, 0);
        way("the first node decides, not the second", x, 0, 6, 3, 2, 0);
        x.send(0, 6);
        way("from the other side", x, 1, 0, 1, 4, 6);
        x.link(3, 2, false);
        x.send(6, 0);
        way("then the second", x, 2, 6, 3, 5, 0);
        x.link(3, 1, true);
        x.send(6, 0);
        way("then the second, lower", x, 3, 6, 3, 1, 0);
    }

    private static void promise9WhoRelays() {
        RelayStakes x = new RelayStakes();
        x.node(100, 0, 0);
        x.node(0, 9, 5);
        x.node(0, 0, 0);
        link(x, 0, 1, 1, 2);
        due.is("a stake of 9 with a price of 5", x.cost(0, 2), -1);
        x.price(1, 4);
        due.is("a stake of 9 with a price of 4", x.cost(0, 2), 4);
        x.put(0, 100);
        due.is("cost(0, 2), with a purse that has not enough", x.cost(0, 2), 4);
        x.price(1, 5);
        x.node(5, 9, 5);
        link(x, 0, 3, 3, 2);
        x.put(3, 1);
        due.is("a stake of 10 with a price of 5", x.cost(0, 2), 5);
        x.leave(3);
        due.is("LEAVING, with its stake", x.cost(0, 2), -1);
        x.join(3, 0);
        due.is("joined again", x.cost(0, 2), 5);
        x.leave(3);
        x.pass(15);
        x.price(3, 0);
        due.is("GONE, with a price of 0", x.cost(0, 2), -1);
        x.join(3, 1);
        due.is("joined with a stake, with a price of 0", x.cost(0, 2), 0);
    }

    private static void promise9SenderAndEndMayBeGone() {
        RelayStakes x = line();
        x.price(3, 50);
        x.price(0, 50);
        due.is("cost(0, 3), the ends cost nothing", x.cost(0, 3), 12);
        x.leave(0);
        x.leave(3);
        due.is("cost(0, 3), the ends LEAVING", x.cost(0, 3), 12);
        x.pass(15);
        due.is("cost(0, 3), the ends GONE", x.cost(0, 3), 12);
        due.is("send(0, 3), the ends GONE", x.send(0, 3), 0);
        x.pass(3);
        due.is("message(0, 0), the ends GONE", x.message(0, 0), RelayStakes.DELIVERED);
        due.is("nodeIs(0, 0), GONE", x.nodeIs(0, 0), 88);
    }

    private static void promise9ALongWay() {
        RelayStakes x = new RelayStakes();
        x.node(500, 100, 50);
        for (int i = 1; i < 12; i++) {
            x.node(0, 100, 50);
            x.link(i - 1, i, true);
        }
        due.is("cost(0, 11) over 10 that relay", x.cost(0, 11), 500);
        due.is("cost(11, 0)", x.cost(11, 0), 500);
        due.is("send(0, 11)", x.send(0, 11), 0);
        way("a long one", x, 0, 0, 1, 2, 3, 4, 5, 6, 7, 8, 9, 10, 11);
        x.pass(10);
        message("in the tick 10", x, 0, RelayStakes.ON_WAY, 10, 500, 0, 10, 0);
        x.pass(1);
        message("in the tick 11", x, 0, RelayStakes.DELIVERED, 11, 500, 0, 10, 0);
        due.is("money()", x.money(), 1700);
    }

    private static void promise10Lose() {
        RelayStakes x = line();
        due.is("lose(1, 3)", x.lose(1, 3), 0);
        due.is("lose(1, 2), in place of it", x.lose(1, 2), 3);
        due.is("lose(1, 9)", x.lose(1, 9), 2);
        due.is("lose(1, 1)", x.lose(1, 1), 9);
        x.send(0, 3);
        x.pass(1);
        due.is("message(0, 0)", x.message(0, 0), RelayStakes.LOST);
        due.is("lose(1, 0), when it is done", x.lose(1, 0), 0);
        x.send(0, 3);
        x.pass(1);
        due.is("message(1, 0)", x.message(1, 0), RelayStakes.ON_WAY);
        due.is("lose(3, 5), at the end", x.lose(3, 5), 0);
        due.is("lose(0, 5), at the sender", x.lose(0, 5), 0);
        x.pass(2);
        due.is("message(1, 0), the end loses none", x.message(1, 0), RelayStakes.DELIVERED);
        due.is("lose(3, 0)", x.lose(3, 0), 5);
        due.is("lose(0, 0)", x.lose(0, 0), 5);
        due.fails("lose(4, 0)", NO_SUCH, MessagesTest::sent, y -> y.lose(4, 0));
        due.fails("lose(-1, 10)", NO_SUCH, MessagesTest::sent, y -> y.lose(-1, 10));
        due.fails("lose(0, 10)", OUT, MessagesTest::sent, y -> y.lose(0, 10));
        due.fails("lose(0, -1)", OUT, MessagesTest::sent, y -> y.lose(0, -1));
    }

    private static void promise10LossesByNumbers() {
        RelayStakes x = line();
        x.send(0, 3);
        x.send(0, 2);
        x.send(0, 2);
        x.lose(1, 2);
        x.pass(1);
        due.is("message(0, 0), the first", x.message(0, 0), RelayStakes.LOST);
        due.is("message(1, 0), the second", x.message(1, 0), RelayStakes.LOST);
        due.is("message(2, 0), the third", x.message(2, 0), RelayStakes.ON_WAY);
        due.is("lose(1, 0)", x.lose(1, 0), 0);
        due.is("nodeIs(1, 2), for two", x.nodeIs(1, 2), 10);
        RelayStakes y = sent();
        y.node(50, 0, 0);
        y.link(4, 2, true);
        y.pass(1);
        y.send(4, 3);
        y.lose(2, 1);
        y.pass(1);
        due.is("message(0, 0), by numbers", y.message(0, 0), RelayStakes.LOST);
        due.is("message(1, 0), by numbers", y.message(1, 0), RelayStakes.ON_WAY);
        due.is("lose(2, 1), done", y.lose(2, 1), 0);
    }

    private static void promise11Delivered() {
        RelayStakes x = sent();
        x.pass(1);
        message("at 1", x, 0, RelayStakes.ON_WAY, 1, 12, 0, 1, 0);
        due.is("nodeIs(1, 5), a receipt", x.nodeIs(1, 5), 1);
        due.is("nodeIs(1, 0), not yet paid", x.nodeIs(1, 0), 0);
        x.pass(1);
        message("at 2", x, 0, RelayStakes.ON_WAY, 2, 12, 0, 2, 0);
        due.is("nodeIs(1, 2), not yet trusted more", x.nodeIs(1, 2), 50);
        x.pass(1);
        message("at 3", x, 0, RelayStakes.DELIVERED, 3, 12, 0, 2, 0);
        due.is("nodeIs(1, 0)", x.nodeIs(1, 0), 5);
        due.is("nodeIs(2, 0)", x.nodeIs(2, 0), 7);
        due.is("nodeIs(1, 2)", x.nodeIs(1, 2), 51);
        due.is("nodeIs(2, 2)", x.nodeIs(2, 2), 51);
        due.is("nodeIs(0, 2), the sender", x.nodeIs(0, 2), 50);
        due.is("nodeIs(3, 2), the end", x.nodeIs(3, 2), 50);
        due.is("nodeIs(3, 0), the end", x.nodeIs(3, 0), 0);
        due.is("nodeIs(1, 1), its stake", x.nodeIs(1, 1), 20);
        x.pass(5);
        message("later", x, 0, RelayStakes.DELIVERED, 3, 12, 0, 2, 0);
        due.is("nodeIs(2, 0), paid once", x.nodeIs(2, 0), 7);
        due.is("nodeIs(2, 2), trusted more once", x.nodeIs(2, 2), 51);
        due.is("money()", x.money(), 150);
    }

    private static void promise11Lost() {
        RelayStakes x = sent();
        x.lose(2, 1);
        x.pass(2);
        message("lost at 2", x, 0, RelayStakes.LOST, 2, 12, 7, 1, 5);
        due.is("nodeIs(0, 0): 88, 7 back, 5 of a stake", x.nodeIs(0, 0), 100);
        due.is("nodeIs(1, 0), who has a receipt", x.nodeIs(1, 0), 5);
        due.is("nodeIs(1, 2), no more trust", x.nodeIs(1, 2), 50);
        due.is("nodeIs(2, 0), who lost it", x.nodeIs(2, 0), 0);
        due.is("nodeIs(2, 1), who lost it", x.nodeIs(2, 1), 25);
        due.is("nodeIs(2, 2), who lost it", x.nodeIs(2, 2), 30);
        due.is("nodeIs(2, 5), who lost it", x.nodeIs(2, 5), 0);
        due.is("money()", x.money(), 150);
        x.pass(5);
        message("later", x, 0, RelayStakes.LOST, 2, 12, 7, 1, 5);
        due.is("nodeIs(0, 0), once", x.nodeIs(0, 0), 100);
        for (int i = 1; i <= 2; i++) {
            x.lose(2, 1);
            x.send(0, 3);
            x.pass(2);
        }
        due.is("nodeIs(2, 2), at least 0", x.nodeIs(2, 2), 0);
    }

    private static void promise11LostAtTheFirst() {
        RelayStakes x = sent();
        x.lose(1, 1);
        x.pass(1);
        message("lost at 1", x, 0, RelayStakes.LOST, 1, 12, 12, 0, 0);
        due.is("nodeIs(0, 0), all of it back", x.nodeIs(0, 0), 100);
        due.is("nodeIs(1, 1), its stake", x.nodeIs(1, 1), 20);
        due.is("nodeIs(1, 2)", x.nodeIs(1, 2), 30);
        due.is("nodeIs(2, 2)", x.nodeIs(2, 2), 50);
    }

    private static void promise11AStakeThatIsTooSmall() {
        RelayStakes x = new RelayStakes();
        x.node(100, 0, 0);
        x.node(0, 100, 40);
        x.node(0, 3, 1);
        x.node(0, 0, 0);
        link(x, 0, 1, 1, 2, 2, 3);
        x.send(0, 3);
        x.lose(2, 2);
        x.pass(2);
        message("a stake of 3 for 40", x, 0, RelayStakes.LOST, 2, 41, 1, 1, 3);
        due.is("nodeIs(2, 1)", x.nodeIs(2, 1), 0);
        due.is("nodeIs(1, 0), its price", x.nodeIs(1, 0), 40);
        due.is("nodeIs(0, 0)", x.nodeIs(0, 0), 63);
        due.is("money()", x.money(), 203);
    }

    private static void promise11OneThatLeftRelays() {
        RelayStakes x = sent();
        x.send(0, 3);
        x.leave(1);
        x.leave(2);
        x.pass(1);
        message("at 1, LEAVING", x, 0, RelayStakes.ON_WAY, 1, 12, 0, 1, 0);
        x.pass(2);
        message("over two that are LEAVING", x, 0, RelayStakes.DELIVERED, 3, 12, 0, 2, 0);
        due.is("nodeIs(1, 0), LEAVING", x.nodeIs(1, 0), 10);
        due.is("nodeIs(1, 2), LEAVING", x.nodeIs(1, 2), 52);
        RelayStakes y = sent();
        y.leave(2);
        y.lose(2, 1);
        y.pass(2);
        message("lost by one that is LEAVING", y, 0, RelayStakes.LOST, 2, 12, 7, 1, 5);
        due.is("nodeIs(2, 1), LEAVING", y.nodeIs(2, 1), 25);
        y.pass(13);
        due.is("nodeIs(2, 0), GONE", y.nodeIs(2, 0), 25);
        RelayStakes z = sent();
        z.put(0, 88);
        z.price(1, 50);
        z.pass(3);
        message("over one with too small a stake by then", z, 0, RelayStakes.DELIVERED, 3, 12, 0, 2, 0);
    }

    private static void promise11Throws() {
        due.fails("message(1, 0)", NO_SUCH, MessagesTest::sent, x -> x.message(1, 0));
        due.fails("message(-1, 6)", NO_SUCH, MessagesTest::sent, x -> x.message(-1, 6));
        due.fails("message(0, 6)", OUT, MessagesTest::sent, x -> x.message(0, 6));
        due.fails("message(0, -1)", OUT, MessagesTest::sent, x -> x.message(0, -1));
        due.answers("message(59, 1)", 2, MessagesTest::full, x -> x.message(59, 1));
        due.same("message(60, 1)", Answer.of(() -> full().message(60, 1)), "throws.IndexOutOfBoundsException");
    }

    private static void promise12Way() {
        RelayStakes x = sent();
        way("sent", x, 0, 0, 1, 2, 3);
        due.is("way(0, 5)", x.way(0, 5), -1);
        due.is("way(0, 11)", x.way(0, 11), -1);
        due.is("way(0, 12)", x.way(0, 12), -1);
        due.is("way(0, most)", x.way(0, Integer.MAX_VALUE), -1);
        x.send(3, 2);
        way("next to it", x, 1, 3, 2);
        way("the one before", x, 0, 0, 1, 2, 3);
        x.lose(1, 1);
        x.pass(1);
        way("lost", x, 0, 0, 1, 2, 3);
        way("delivered", x, 1, 3, 2);
        due.fails("way(1, 0)", NO_SUCH, MessagesTest::sent, y -> y.way(1, 0));
        due.fails("way(-1, 0)", NO_SUCH, MessagesTest::sent, y -> y.way(-1, 0));
        due.fails("way(0, -1)", NO_SUCH, MessagesTest::sent, y -> y.way(0, -1));
        due.fails("way(0, least)", NO_SUCH, MessagesTest::sent, y -> y.way(0, Integer.MIN_VALUE));
    }
}
