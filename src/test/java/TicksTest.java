/** Promises 16 to 19: ticks, and asking. */
final class TicksTest {
    private static final Due due = new Due("TicksTest");
    private static final Class<IndexOutOfBoundsException> NO_SUCH = IndexOutOfBoundsException.class;
    private static final Class<IllegalArgumentException> OUT = IllegalArgumentException.class;
    private static final Class<IllegalStateException> STATE = IllegalStateException.class;

    public static void main(String[] args) {
        promise16Pass();
        promise16TheLastTick();
        promise16MessagesThenTheNextTick();
        promise17NodeIs();
        promise17TrustIsAtMost100();
        promise18PaidAnew();
        promise19Money();
        due.end();
    }

    /** A line 0 - 1 - 2 - 3: node 0 has 200, node 1 relays for 5, node 2 for 7, node 3 has 50. */
    private static RelayStakes line() {
        RelayStakes x = new RelayStakes();
        x.node(200, 0, 0);
        x.node(0, 20, 5);
        x.node(0, 30, 7);
        x.node(50, 0, 0);
        x.link(0, 1, true);
        x.link(1, 2, true);
        x.link(2, 3, true);
        return x;
    }

    private static RelayStakes inTheTick(int tick) {
        RelayStakes x = line();
        int now = 0;
        while (now < tick) {
            now = x.pass(Math.min(30, tick - now));
        }
        return x;
    }

    private static void promise16Pass() {
        RelayStakes x = line();
        due.is("pass(1)", x.pass(1), 1);
        due.is("pass(30)", x.pass(30), 31);
        due.is("pass(2)", x.pass(2), 33);
        due.is("leave(0) in the tick 33", x.leave(0), 48);
        due.fails("pass(0)", OUT, TicksTest::line, y -> y.pass(0));
        due.fails("pass(-1)", OUT, TicksTest::line, y -> y.pass(-1));
        due.fails("pass(31)", OUT, TicksTest::line, y -> y.pass(31));
        due.fails("pass(most)", OUT, TicksTest::line, y -> y.pass(Integer.MAX_VALUE));
        due.fails("pass(least)", OUT, TicksTest::line, y -> y.pass(Integer.MIN_VALUE));
        RelayStakes once = line();
        once.send(0, 3);
        once.leave(2);
        RelayStakes thrice = line();
        thrice.send(0, 3);
        thrice.leave(2);
        once.pass(17);
        thrice.pass(2);
        thrice.pass(1);
        thrice.pass(14);
        due.same("17 ticks at once, and in three calls", Observed.all(once), Observed.all(thrice));
    }

    private static void promise16TheLastTick() {
        due.answers("pass(30) to the last tick", 5000, () -> inTheTick(4970), x -> x.pass(30));
        due.answers("pass(1) to the last tick", 5000, () -> inTheTick(4999), x -> x.pass(1));
        due.fails("pass(30) beyond the last tick", STATE, () -> inTheTick(4971), x -> x.pass(30));
        due.fails("pass(2) beyond the last tick", STATE, () -> inTheTick(4999), x -> x.pass(2));
        due.fails("pass(1) in the last tick", STATE, () -> inTheTick(5000), x -> x.pass(1));
        due.fails("pass(31) in the last tick", OUT, () -> inTheTick(5000), x -> x.pass(31));
        due.answers("leave(1) in the last tick", 5015, () -> inTheTick(5000), x -> x.leave(1));
        due.answers("watcher() in the last tick", 0, () -> inTheTick(5000), x -> x.watcher());
    }

    private static void promise16MessagesThenTheNextTick() {
        RelayStakes x = line();
        x.leave(2);
        x.pass(13);
        x.join(2, 0);
        x.send(0, 3);
        x.leave(2);
        due.is("pass(3)", x.pass(3), 16);
        due.is("message(0, 0)", x.message(0, 0), RelayStakes.DELIVERED);
        RelayStakes two = line();
        two.send(0, 3);
        two.send(3, 0);
        two.send(1, 2);
        two.pass(1);
        due.is("message(0, 1)", two.message(0, 1), 1);
        due.is("message(1, 1)", two.message(1, 1), 2);
        due.is("message(2, 1)", two.message(2, 1), 2);
        due.is("message(2, 0)", two.message(2, 0), RelayStakes.DELIVERED);
        two.pass(1);
        two.send(0, 1);
        due.is("message(3, 1), sent in the tick 2", two.message(3, 1), 0);
        two.pass(1);
        due.is("message(0, 0)", two.message(0, 0), RelayStakes.DELIVERED);
        due.is("message(3, 0)", two.message(3, 0), RelayStakes.DELIVERED);
    }

    private static void promise17NodeIs() {
        RelayStakes x = line();
        x.send(0, 3);
        x.send(0, 2);
        x.pass(1);
        long[] onTheWay = {0, 20, 50, RelayStakes.JOINED, 0, 2, -1};
        nodeIs("on the way", x, 1, onTheWay);
        x.lose(2, 1);
        x.pass(1);
        long[] later = {10, 20, 51, RelayStakes.JOINED, 10, 2, -1};
        nodeIs("one delivered, one lost behind it", x, 1, later);
        long[] loser = {0, 25, 30, RelayStakes.JOINED, 0, 0, -1};
        nodeIs("who lost it", x, 2, loser);
        x.leave(1);
        long[] leaving = {10, 20, 51, RelayStakes.LEAVING, 10, 2, 17};
        nodeIs("LEAVING", x, 1, leaving);
        x.pass(15);
        long[] gone = {30, 0, 51, RelayStakes.GONE, 10, 2, -1};
        nodeIs("GONE", x, 1, gone);
        due.fails("nodeIs(4, 0)", NO_SUCH, TicksTest::line, y -> y.nodeIs(4, 0));
        due.fails("nodeIs(-1, 7)", NO_SUCH, TicksTest::line, y -> y.nodeIs(-1, 7));
        due.fails("nodeIs(0, 7)", OUT, TicksTest::line, y -> y.nodeIs(0, 7));
        due.fails("nodeIs(0, -1)", OUT, TicksTest::line, y -> y.nodeIs(0, -1));
    }

    private static void nodeIs(String when, RelayStakes x, int node, long[] want) {
        for (int what = 0; what < want.length; what++) {
            due.is(when + ": nodeIs(" + node + ", " + what + ")", x.nodeIs(node, what), want[what]);
        }
        due.is(when + ": paidAnew(" + node + ")", x.paidAnew(node), want[4]);
    }

    private static void promise17TrustIsAtMost100() {
        RelayStakes x = line();
        x.price(1, 0);
        for (int i = 0; i < 49; i++) {
            x.send(0, 2);
        }
        x.pass(2);
        due.is("nodeIs(1, 2) after 49", x.nodeIs(1, 2), 99);
        for (int i = 0; i < 3; i++) {
            x.send(2, 0);
        }
        x.pass(1);
        due.is("nodeIs(1, 2) under way", x.nodeIs(1, 2), 99);
        x.pass(1);
        due.is("nodeIs(1, 2) after 52", x.nodeIs(1, 2), 100);
        due.is("nodeIs(1, 5) after 52", x.nodeIs(1, 5), 52);
        x.lose(1, 1);
        x.send(0, 2);
        x.pass(1);
        due.is("nodeIs(1, 2) after one lost", x.nodeIs(1, 2), 80);
    }

    private static void promise18PaidAnew() {
        RelayStakes x = line();
        due.is("paidAnew(1) at first", x.paidAnew(1), 0);
        x.send(0, 3);
        x.price(1, 9);
        x.send(0, 2);
        x.send(3, 1);
        x.pass(1);
        due.is("paidAnew(1), all on the way", x.paidAnew(1), 0);
        due.is("nodeIs(1, 4), all on the way", x.nodeIs(1, 4), 0);
        x.pass(1);
        due.is("paidAnew(1), one delivered", x.paidAnew(1), 9);
        due.is("paidAnew(2), one delivered", x.paidAnew(2), 7);
        due.is("nodeIs(1, 4), one delivered", x.nodeIs(1, 4), 9);
        x.pass(1);
        due.is("paidAnew(1), all delivered", x.paidAnew(1), 14);
        due.is("paidAnew(2), all delivered", x.paidAnew(2), 14);
        due.is("paidAnew(0), a sender", x.paidAnew(0), 0);
        due.is("paidAnew(3), an end and a sender", x.paidAnew(3), 0);
        x.send(0, 3);
        x.lose(2, 1);
        x.pass(2);
        due.is("paidAnew(1), with a receipt for a lost one", x.paidAnew(1), 23);
        due.is("nodeIs(1, 4), with a receipt for a lost one", x.nodeIs(1, 4), 23);
        due.is("paidAnew(2), who lost it", x.paidAnew(2), 14);
        x.put(1, 20);
        due.is("paidAnew(1), when it is spent", x.paidAnew(1), 23);
        due.is("nodeIs(1, 4), when it is spent", x.nodeIs(1, 4), 23);
        due.fails("paidAnew(4)", NO_SUCH, TicksTest::line, y -> y.paidAnew(4));
        due.fails("paidAnew(-1)", NO_SUCH, TicksTest::line, y -> y.paidAnew(-1));
    }

    private static void promise19Money() {
        RelayStakes x = new RelayStakes();
        due.is("money() without nodes", x.money(), 0);
        x = line();
        due.is("money()", x.money(), 300);
        x.node(9999, 999, 0);
        due.is("money() with another", x.money(), 11298);
        x.put(4, 9999);
        due.is("money(), put", x.money(), 11298);
        x.send(0, 3);
        x.send(0, 3);
        due.is("money(), in two messages", x.money(), 11298);
        x.lose(2, 1);
        x.pass(1);
        due.is("money(), under way", x.money(), 11298);
        x.pass(1);
        due.is("money(), one lost", x.money(), 11298);
        x.pass(1);
        due.is("money(), one delivered", x.money(), 11298);
        x.leave(4);
        x.pass(15);
        due.is("money(), one GONE", x.money(), 11298);
        due.is("nodeIs(4, 0)", x.nodeIs(4, 0), 10998);
        RelayStakes most = new RelayStakes();
        for (int i = 0; i < 12; i++) {
            most.node(9999, 999, 0);
        }
        due.is("money(), as much as there may be", most.money(), 12 * 10998);
    }
}
