/** Promise 2: node. */
public final class NodeTest {
    public static void main(String[] args) {
        numbersGoUpToHundred();
        newNodeIsFresh();
        nodesAreApart();
        Check.finish();
    }

    private static void numbersGoUpToHundred() {
        CanErrors bus = Check.withNodes(99);
        Check.due("100 is not there yet", bus.state(100), -1);
        Check.due("node 100", bus.node(), 100);
        Check.due("100 is there", bus.state(100), 0);
        Check.due("no room", bus.node(), -4);
        Check.due("still no room", bus.node(), -4);
        Check.due("101 is not there", bus.state(101), -1);
        Check.due("0 is not there", bus.state(0), -1);
    }

    private static void newNodeIsFresh() {
        CanErrors bus = Check.withNodes(1);
        Check.due("sending", bus.counter(1, true), 0);
        Check.due("receiving", bus.counter(1, false), 0);
        Check.due("state", bus.state(1), 0);
        Check.due("flag", bus.flag(1), 0);
        Check.due("suspended", bus.suspended(1), 0);
        Check.due("given up", bus.shot(1, false), 0);
        Check.due("listens not", bus.listen(1, false), 0);
    }

    private static void nodesAreApart() {
        CanErrors bus = Check.withNodes(2);
        bus.shot(1, true);
        Check.repeat(bus, 3, 1, true);
        bus.event(1, 1, false);
        Check.due("sending of the other", bus.counter(2, true), 0);
        Check.due("receiving of the other", bus.counter(2, false), 0);
        Check.due("flag of the other", bus.flag(2), 0);
        Check.due("suspended of the other", bus.suspended(2), 0);
        Check.due("given up by the other", bus.shot(2, false), 0);
        bus.listen(1, true);
        Check.due("the other does not listen", bus.listen(2, false), 0);
        Check.due("the other is no sender yet", bus.two(2, 1, 6), 0);
        Check.due("the other is a receiver", bus.counter(2, false), 9);
    }
}
