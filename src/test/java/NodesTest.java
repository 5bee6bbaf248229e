/** Promises 1 to 7: a new object, and the calls that tell of nodes. */
final class NodesTest {
    private static final Due due = new Due("NodesTest");
    private static final Class<IndexOutOfBoundsException> NO_SUCH = IndexOutOfBoundsException.class;
    private static final Class<IllegalArgumentException> OUT = IllegalArgumentException.class;
    private static final Class<IllegalStateException> STATE = IllegalStateException.class;

    public static void main(String[] args) {
        promise1NewObject();
        promise2Node();
        promise2NodeEdges();
        promise3Link();
        promise4Price();
        promise5Put();
        promise6Leave();
        promise6TheStakeOfOneThatIsGone();
        promise7Join();
        promise7JoinThrows();
        due.end();
    }

    private static RelayStakes two() {
        RelayStakes x = new RelayStakes();
        x.node(100, 20, 5);
        x.node(30, 0, 0);
        return x;
    }

    private static RelayStakes full() {
        RelayStakes x = new RelayStakes();
        for (int i = 0; i < 12; i++) {
            x.node(i, 0, 0);
        }
        return x;
    }

    /** Node 0 is LEAVING until the tick 15, with 100 and a stake of 20. */
    private static RelayStakes leaving() {
        RelayStakes x = two();
        x.leave(0);
        return x;
    }

    /** Node 0 is GONE, with 120 and no stake. */
    private static RelayStakes gone() {
        RelayStakes x = leaving();
        x.pass(15);
        return x;
    }

    private static void promise1NewObject() {
        RelayStakes x = new RelayStakes();
        due.is("new: money()", x.money(), 0);
        due.is("new: watcher()", x.watcher(), -1);
        due.is("new: pass(1)", x.pass(1), 1);
        due.is("new: watcher() in the tick 1", x.watcher(), -1);
        due.is("new: node(1, 2, 3)", x.node(1, 2, 3), 0);
        due.fails("new: nodeIs(0, 0)", NO_SUCH, RelayStakes::new, y -> y.nodeIs(0, 0));
        due.fails("new: paidAnew(0)", NO_SUCH, RelayStakes::new, y -> y.paidAnew(0));
        due.fails("new: message(0, 0)", NO_SUCH, RelayStakes::new, y -> y.message(0, 0));
        due.fails("new: way(0, 0)", NO_SUCH, RelayStakes::new, y -> y.way(0, 0));
        due.same("two new objects", Observed.all(new RelayStakes()), Observed.all(new RelayStakes()));
    }

    private static void promise2Node() {
        RelayStakes x = new RelayStakes();
        due.is("node(100, 20, 5)", x.node(100, 20, 5), 0);
        due.is("node(30, 7, 50)", x.node(30, 7, 50), 1);
        long[] want = {30, 7, 50, RelayStakes.JOINED, 0, 0, RelayStakes.NONE};
        for (int what = 0; what <= 6; what++) {
            due.is("nodeIs(1, " + what + ")", x.nodeIs(1, what), want[what]);
        }
        due.is("nodeIs(0, 0)", x.nodeIs(0, 0), 100);
        due.is("money()", x.money(), 157);
        due.is("price(1, 0)", x.price(1, 0), 50);
        due.is("lose(1, 0)", x.lose(1, 0), 0);
        due.is("link(0, 1, false)", x.link(0, 1, false), false);
        RelayStakes many = new RelayStakes();
        for (int i = 0; i < 12; i++) {
            due.is("node " + i, many.node(i, i, i), i);
        }
    }

    private static void promise2NodeEdges() {
        due.answers("node(0, 0, 0)", 2, NodesTest::two, x -> x.node(0, 0, 0));
        due.answers("node(9999, 999, 50)", 2, NodesTest::two, x -> x.node(9999, 999, 50));
        due.fails("node(-1, 0, 0)", OUT, NodesTest::two, x -> x.node(-1, 0, 0));
        due.fails("node(10000, 0, 0)", OUT, NodesTest::two, x -> x.node(10000, 0, 0));
        due.fails("node(0, -1, 0)", OUT, NodesTest::two, x -> x.node(0, -1, 0));
        due.fails("node(0, 1000, 0)", OUT, NodesTest::two, x -> x.node(0, 1000, 0));
        due.fails("node(0, 0, -1)", OUT, NodesTest::two, x -> x.node(0, 0, -1));
        due.fails("node(0, 0, 51)", OUT, NodesTest::two, x -> x.node(0, 0, 51));
        due.fails("node(least, least, least)", OUT, NodesTest::two,
            x -> x.node(Integer.MIN_VALUE, Integer.MIN_VALUE, Integer.MIN_VALUE));
        due.fails("a node too many", STATE, NodesTest::full, x -> x.node(0, 0, 0));
        due.fails("a node too many, out of range", OUT, NodesTest::full, x -> x.node(0, 0, 51));
    }

    private static void promise3Link() {
        RelayStakes x = two();
        x.node(0, 0, 0);
        due.is("link(0, 1, true)", x.link(0, 1, true), false);
        due.is("link(0, 1, true) anew", x.link(0, 1, true), true);
        due.is("link(1, 0, true), the other way round", x.link(1, 0, true), true);
        due.is("link(0, 2, false), never linked", x.link(0, 2, false), false);
        due.is("link(0, 2, false) anew", x.link(0, 2, false), false);
        due.is("cost(0, 1)", x.cost(0, 1), 0);
        due.is("cost(1, 0)", x.cost(1, 0), 0);
        due.is("cost(0, 2)", x.cost(0, 2), -1);
        due.is("link(1, 2, true)", x.link(1, 2, true), false);
        due.is("link(1, 0, false)", x.link(1, 0, false), true);
        due.is("link(0, 1, false)", x.link(0, 1, false), false);
        due.is("cost(0, 1), parted", x.cost(0, 1), -1);
        due.is("cost(2, 1), still linked", x.cost(2, 1), 0);
        partedUnderWay();
        RelayStakes all = full();
        due.is("link(11, 0, true)", all.link(11, 0, true), false);
        due.is("link(0, 11, false)", all.link(0, 11, false), true);
        due.fails("link(0, 2, true)", NO_SUCH, NodesTest::two, y -> Answer.bit(y.link(0, 2, true)));
        due.fails("link(2, 0, true)", NO_SUCH, NodesTest::two, y -> Answer.bit(y.link(2, 0, true)));
        due.fails("link(-1, 0, true)", NO_SUCH, NodesTest::two, y -> Answer.bit(y.link(-1, 0, true)));
        due.fails("link(0, -1, true)", NO_SUCH, NodesTest::two, y -> Answer.bit(y.link(0, -1, true)));
        due.fails("link(2, 2, true)", NO_SUCH, NodesTest::two, y -> Answer.bit(y.link(2, 2, true)));
        due.fails("link(1, 1, true)", OUT, NodesTest::two, y -> Answer.bit(y.link(1, 1, true)));
        due.fails("link(1, 1, false)", OUT, NodesTest::two, y -> Answer.bit(y.link(1, 1, false)));
    }

    private static void partedUnderWay() {
        RelayStakes x = two();
        x.node(0, 0, 0);
        x.link(1, 0, true);
        x.link(0, 2, true);
        due.is("send(1, 2)", x.send(1, 2), 0);
        due.is("link(1, 0, false) with a message under way", x.link(1, 0, false), true);
        due.is("link(0, 2, false) with a message under way", x.link(0, 2, false), true);
        x.pass(2);
        due.is("a message whose links are parted is DELIVERED", x.message(0, 0), RelayStakes.DELIVERED);
        due.is("the one that relayed it has its price", x.nodeIs(0, 0), 105);
    }

    private static void promise4Price() {
        RelayStakes x = two();
        due.is("price(0, 50)", x.price(0, 50), 5);
        due.is("price(0, 0)", x.price(0, 0), 50);
        due.is("price(0, 9)", x.price(0, 9), 0);
        due.is("price(1, 1)", x.price(1, 1), 0);
        due.is("price(0, 9) anew", x.price(0, 9), 9);
        due.answers("price(0, 4), GONE", 5, NodesTest::gone, y -> y.price(0, 4));
        due.fails("price(2, 0)", NO_SUCH, NodesTest::two, y -> y.price(2, 0));
        due.fails("price(-1, 51)", NO_SUCH, NodesTest::two, y -> y.price(-1, 51));
        due.fails("price(0, 51)", OUT, NodesTest::two, y -> y.price(0, 51));
        due.fails("price(0, -1)", OUT, NodesTest::two, y -> y.price(0, -1));
    }

    private static void promise5Put() {
        RelayStakes x = two();
        due.is("put(0, 1)", x.put(0, 1), 21);
        due.is("nodeIs(0, 0)", x.nodeIs(0, 0), 99);
        due.is("nodeIs(0, 1)", x.nodeIs(0, 1), 21);
        due.is("put(0, 99), all of the purse", x.put(0, 99), 120);
        due.is("nodeIs(0, 0), none left", x.nodeIs(0, 0), 0);
        due.is("money()", x.money(), 150);
        due.is("node(9999, 999, 0)", x.node(9999, 999, 0), 2);
        due.is("put(2, 9999)", x.put(2, 9999), 10998);
        due.answers("put(0, 30), LEAVING", 50, NodesTest::leaving, y -> y.put(0, 30));
        due.answers("put and how it is", RelayStakes.LEAVING, NodesTest::leaving, y -> y.put(0, 30) * 0 + y.nodeIs(0, 3));
        due.fails("put(2, 1)", NO_SUCH, NodesTest::two, y -> y.put(2, 1));
        due.fails("put(-1, 0)", NO_SUCH, NodesTest::two, y -> y.put(-1, 0));
        due.fails("put(0, 0)", OUT, NodesTest::two, y -> y.put(0, 0));
        due.fails("put(0, -5)", OUT, NodesTest::two, y -> y.put(0, -5));
        due.fails("put(0, 10000)", OUT, NodesTest::two, y -> y.put(0, 10000));
        due.fails("put(0, 101)", STATE, NodesTest::two, y -> y.put(0, 101));
        due.fails("put(0, 1), GONE", STATE, NodesTest::gone, y -> y.put(0, 1));
        due.fails("put(0, 0), GONE", OUT, NodesTest::gone, y -> y.put(0, 0));
    }

    private static void promise6Leave() {
        RelayStakes x = two();
        x.pass(3);
        due.is("nodeIs(0, 6), JOINED", x.nodeIs(0, 6), -1);
        due.is("leave(0)", x.leave(0), 18);
        due.is("nodeIs(0, 3)", x.nodeIs(0, 3), RelayStakes.LEAVING);
        due.is("nodeIs(0, 6)", x.nodeIs(0, 6), 18);
        due.is("nodeIs(0, 1), still staked", x.nodeIs(0, 1), 20);
        due.is("pass(14)", x.pass(14), 17);
        due.is("nodeIs(0, 3) in the tick 17", x.nodeIs(0, 3), RelayStakes.LEAVING);
        due.is("nodeIs(0, 1) in the tick 17", x.nodeIs(0, 1), 20);
        due.is("pass(1)", x.pass(1), 18);
        due.is("nodeIs(0, 3) in the tick 18", x.nodeIs(0, 3), RelayStakes.GONE);
        due.is("nodeIs(0, 6) in the tick 18", x.nodeIs(0, 6), -1);
        due.is("nodeIs(1, 3), who did not leave", x.nodeIs(1, 3), RelayStakes.JOINED);
        due.fails("leave(2)", NO_SUCH, NodesTest::two, y -> y.leave(2));
        due.fails("leave(-1)", NO_SUCH, NodesTest::two, y -> y.leave(-1));
        due.fails("leave(0), LEAVING", STATE, NodesTest::leaving, y -> y.leave(0));
        due.fails("leave(0), GONE", STATE, NodesTest::gone, y -> y.leave(0));
    }

    private static void promise6TheStakeOfOneThatIsGone() {
        RelayStakes x = leaving();
        due.is("put(0, 10), LEAVING", x.put(0, 10), 30);
        x.pass(15);
        due.is("nodeIs(0, 0), GONE", x.nodeIs(0, 0), 120);
        due.is("nodeIs(0, 1), GONE", x.nodeIs(0, 1), 0);
        due.is("money()", x.money(), 150);
        x.pass(15);
        due.is("nodeIs(0, 0), long GONE", x.nodeIs(0, 0), 120);
    }

    private static void promise7Join() {
        RelayStakes x = leaving();
        x.pass(14);
        due.is("join(0, 0), LEAVING", x.join(0, 0), 20);
        due.is("nodeIs(0, 3)", x.nodeIs(0, 3), RelayStakes.JOINED);
        due.is("nodeIs(0, 6)", x.nodeIs(0, 6), -1);
        x.pass(30);
        due.is("nodeIs(0, 3), joined again", x.nodeIs(0, 3), RelayStakes.JOINED);
        due.is("leave(0) anew, in the tick 44", x.leave(0), 59);
        due.is("join(0, 100), LEAVING", x.join(0, 100), 120);
        due.is("nodeIs(0, 0)", x.nodeIs(0, 0), 0);
        due.is("leave(0) once more", x.leave(0), 59);
        due.is("pass(15)", x.pass(15), 59);
        due.is("nodeIs(0, 3), GONE", x.nodeIs(0, 3), RelayStakes.GONE);
        due.is("join(0, 1), GONE", x.join(0, 1), 1);
        due.is("nodeIs(0, 0)", x.nodeIs(0, 0), 119);
        due.is("nodeIs(0, 3)", x.nodeIs(0, 3), RelayStakes.JOINED);
        due.is("nodeIs(0, 2), as before", x.nodeIs(0, 2), 50);
        due.is("money()", x.money(), 150);
        due.is("leave(0) in the tick 59", x.leave(0), 74);
        due.answers("join(0, 120), GONE", 120, NodesTest::gone, y -> y.join(0, 120));
    }

    private static void promise7JoinThrows() {
        due.fails("join(2, 1)", NO_SUCH, NodesTest::leaving, y -> y.join(2, 1));
        due.fails("join(-1, -1)", NO_SUCH, NodesTest::leaving, y -> y.join(-1, -1));
        due.fails("join(0, -1)", OUT, NodesTest::leaving, y -> y.join(0, -1));
        due.fails("join(0, 10000)", OUT, NodesTest::leaving, y -> y.join(0, 10000));
        due.fails("join(1, 10000), JOINED", OUT, NodesTest::two, y -> y.join(1, 10000));
        due.fails("join(1, 0), JOINED", STATE, NodesTest::two, y -> y.join(1, 0));
        due.fails("join(1, 1), JOINED", STATE, NodesTest::two, y -> y.join(1, 1));
        due.fails("join(0, 101), LEAVING", STATE, NodesTest::leaving, y -> y.join(0, 101));
        due.fails("join(0, 9999), LEAVING", STATE, NodesTest::leaving, y -> y.join(0, 9999));
        due.fails("join(0, 0), GONE", STATE, NodesTest::gone, y -> y.join(0, 0));
        due.fails("join(0, 121), GONE", STATE, NodesTest::gone, y -> y.join(0, 121));
    }
}
