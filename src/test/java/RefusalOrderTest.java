/** "REFUSALS .. answer, the first that fits": where two or three of them fit at once. */
public final class RefusalOrderTest {
    private static final int[] UNKNOWN = {0, -1, 3, 101, Integer.MAX_VALUE, Integer.MIN_VALUE};
    private static final int[] NO_KIND = {-1, 11, Integer.MAX_VALUE, Integer.MIN_VALUE};
    private static final int[] NO_ROWS = {0, -1, Integer.MIN_VALUE};

    public static void main(String[] args) {
        noNodeBeforeAll(new CanErrors(), "none");
        noNodeBeforeAll(Check.withNodes(2), "two");
        noNodeBeforeAll(withOneOff(), "one OFF");
        kindBeforeOff();
        kindBeforeListeningAlone();
        kindsOfTwoBeforeOff();
        rowsBeforeNotOff();
        rowsBeforeNotLet();
        timeWhenOff();
        roomWhenAllAreOff();
        Check.finish();
    }

    /** -1 before -2 and -3: with numbers that are outside every range besides. */
    private static void noNodeBeforeAll(CanErrors bus, String nodes) {
        for (int number : UNKNOWN) {
            String of = " of " + number + " with " + nodes;
            for (int kind : NO_KIND) {
                Check.due("event " + kind + of, bus.event(number, kind, true), -1);
                Check.due("two " + kind + of, bus.two(number, kind, 0), -1);
            }
            for (int rows : NO_ROWS) {
                Check.due("recover " + rows + of, bus.recover(number, rows), -1);
            }
            Check.due("recover 1" + of, bus.recover(number, 1), -1);
            Check.due("manager -1" + of, bus.manager(number, -1), -1);
            Check.due("manager least" + of, bus.manager(number, Long.MIN_VALUE), -1);
            Check.due("manager 0" + of, bus.manager(number, 0), -1);
            Check.due("listen" + of, bus.listen(number, true), -1);
            Check.due("suspended" + of, bus.suspended(number), -1);
        }
    }

    /** -2 before -3: no such kind, and it is OFF. */
    private static void kindBeforeOff() {
        CanErrors bus = withOneOff();
        for (int kind : NO_KIND) {
            Check.due("a sender's " + kind, bus.event(1, kind, true), -2);
            Check.due("a receiver's " + kind, bus.event(1, kind, false), -2);
        }
        Check.due("a kind", bus.event(1, 10, true), -3);
    }

    /** -2 before -3: no such kind, and it listens alone and should be the sender. */
    private static void kindBeforeListeningAlone() {
        CanErrors bus = Check.withNodes(1);
        bus.listen(1, true);
        for (int kind : NO_KIND) {
            Check.due("a sender's " + kind, bus.event(1, kind, true), -2);
            Check.due("a receiver's " + kind, bus.event(1, kind, false), -2);
        }
        Check.due("a kind", bus.event(1, 10, true), -3);
    }

    /** -2 before -3: a kind is none, or 0, and it is OFF. */
    private static void kindsOfTwoBeforeOff() {
        CanErrors bus = withOneOff();
        for (int kind : NO_KIND) {
            Check.due("first " + kind, bus.two(1, kind, 6), -2);
            Check.due("second " + kind, bus.two(1, 6, kind), -2);
        }
        Check.due("first 0", bus.two(1, 0, 6), -2);
        Check.due("second 0", bus.two(1, 6, 0), -2);
        Check.due("kinds", bus.two(1, 1, 10), -3);
    }

    /** -2 before -3: rows are below 1, and it is not OFF. */
    private static void rowsBeforeNotOff() {
        CanErrors bus = Check.withNodes(1);
        for (int rows : NO_ROWS) {
            Check.due("rows " + rows, bus.recover(1, rows), -2);
        }
        Check.due("a row", bus.recover(1, 1), -3);
    }

    /** -2 before -3: rows are below 1, and it is not LET. */
    private static void rowsBeforeNotLet() {
        CanErrors bus = withOneOff();
        for (int rows : NO_ROWS) {
            Check.due("rows " + rows, bus.recover(1, rows), -2);
        }
        Check.due("a row", bus.recover(1, 1), -3);
        bus.manager(1, 5);
        for (int rows : NO_ROWS) {
            Check.due("rows " + rows + " asked for", bus.recover(1, rows), -2);
        }
        Check.due("a row, asked for", bus.recover(1, 1), -3);
    }

    /** -2 answers for a node that waits, as for one that does not. */
    private static void timeWhenOff() {
        CanErrors bus = withOneOff();
        bus.manager(2, 50);
        Check.due("OFF, less than one before", bus.manager(1, 49), -2);
        Check.due("OFF, below 0", bus.manager(1, -1), -2);
        Check.due("unknown, less than one before", bus.manager(3, 49), -1);
        Check.due("OFF, as one before", bus.manager(1, 50), 0);
    }

    /** -4 is all that `node` refuses with, also if a node is OFF. */
    private static void roomWhenAllAreOff() {
        CanErrors bus = withOneOff();
        for (int number = 3; number <= 100; number++) {
            Check.due("node", bus.node(), number);
        }
        Check.due("no room", bus.node(), -4);
    }

    private static CanErrors withOneOff() {
        CanErrors bus = Check.withNodes(2);
        Check.switchOffFast(bus);
        return bus;
    }
}
