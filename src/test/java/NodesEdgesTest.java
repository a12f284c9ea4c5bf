/** The edges of NODES, and of promises 1 and 2: an object with none, with one, with 99 and with 100. */
public final class NodesEdgesTest {
    private static final int[] NEVER = {0, -1, -2, -100, 101, 102, 256, 65537, Integer.MAX_VALUE,
        Integer.MAX_VALUE - 1, Integer.MIN_VALUE, Integer.MIN_VALUE + 1, Integer.MIN_VALUE + 100};

    public static void main(String[] args) {
        newObjectHasNone();
        numbersBeginWithOne();
        hundredthIsTheLast();
        refusedNodeChangesNothing();
        hundredNodesAreApart();
        numbersAreNotUsedAgain();
        Check.finish();
    }

    /** "No nodes." */
    private static void newObjectHasNone() {
        CanErrors bus = new CanErrors();
        for (int number = 1; number <= 100; number += 33) {
            Check.noneThere(bus, number);
        }
        for (int number : NEVER) {
            Check.noneThere(bus, number);
        }
        Check.due("the first one behind all that", bus.node(), 1);
    }

    /** "NODES are numbered from 1 on" */
    private static void numbersBeginWithOne() {
        CanErrors bus = new CanErrors();
        Check.due("the first", bus.node(), 1);
        Check.noneThere(bus, 0);
        Check.noneThere(bus, 2);
        Check.due("1 is there", bus.state(1), 0);
        Check.due("the second", bus.node(), 2);
        Check.noneThere(bus, 3);
        Check.due("2 is there", bus.state(2), 0);
    }

    /** "at most 100", "-4 there are 100" */
    private static void hundredthIsTheLast() {
        CanErrors bus = Check.withNodes(99);
        Check.noneThere(bus, 100);
        Check.due("99 and one more", bus.node(), 100);
        for (int number : NEVER) {
            Check.noneThere(bus, number);
        }
        for (int i = 0; i < 3; i++) {
            Check.due("100 and one more", bus.node(), -4);
        }
        Check.noneThere(bus, 101);
        Check.due("100 is there", bus.event(100, 1, true), 0);
    }

    /** "REFUSALS change nothing": -4 leaves the 100 nodes as they are. */
    private static void refusedNodeChangesNothing() {
        CanErrors bus = Check.withNodes(100);
        bus.event(1, 1, true);
        bus.event(100, 7, false);
        bus.shot(100, true);
        Check.due("no room", bus.node(), -4);
        Check.due("counter of 1", bus.counter(1, true), 8);
        Check.due("flag of 1", bus.flag(1), 6);
        Check.due("counter of 100", bus.counter(100, false), 8);
        bus.event(100, 1, true);
        Check.due("100 is SINGLE", bus.shot(100, true), 1);
    }

    /** Each of the 100 has its own counters. */
    private static void hundredNodesAreApart() {
        CanErrors bus = Check.withNodes(100);
        for (int number = 1; number <= 100; number++) {
            bus.event(number, number % 2 == 0 ? 1 : 7, number % 3 == 0);
        }
        for (int number = 1; number <= 100; number++) {
            int receiving = number % 2 == 0 ? 1 : 8;
            Check.due("sending of " + number, bus.counter(number, true), number % 3 == 0 ? 8 : 0);
            Check.due("receiving of " + number, bus.counter(number, false), number % 3 == 0 ? 0 : receiving);
            Check.due("flag of " + number, bus.flag(number), number % 2 == 0 ? 6 : 0);
        }
    }

    /** A node that is OFF or back again keeps its number; there is no room for another. */
    private static void numbersAreNotUsedAgain() {
        CanErrors bus = Check.withNodes(100);
        Check.switchOffFast(bus);
        Check.due("no room while one is OFF", bus.node(), -4);
        Check.comeBack(bus, 0, 10);
        Check.due("no room when it is back", bus.node(), -4);
    }
}
