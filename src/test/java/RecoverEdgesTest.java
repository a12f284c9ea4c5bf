/** The edges of the rows in COMING BACK, and of promise 6. */
public final class RecoverEdgesTest {
    public static void main(String[] args) {
        rowsBelow1();
        with128();
        countedOn();
        beyondInt();
        notOff();
        notLet();
        countedOnlySinceItWasLet();
        rowsOfItsOwn();
        refusedRowsAreNotCounted();
        nodesCountApart();
        backIsActive();
        Check.finish();
    }

    /** "-2 rows are below 1" */
    private static void rowsBelow1() {
        int[] below = {0, -1, -127, -128, Integer.MIN_VALUE, Integer.MIN_VALUE + 1};
        CanErrors bus = let();
        for (int rows : below) {
            Check.due("rows " + rows, bus.recover(1, rows), -2);
        }
        Check.due("1 is taken", bus.recover(1, 1), 2);
        for (int rows : below) {
            Check.due("rows " + rows + " behind 1", bus.recover(1, rows), -2);
        }
        Check.due("126 more", bus.recover(1, 126), 2);
        Check.due("1 more", bus.recover(1, 1), 0);
    }

    /** "with 128 of them it is ACTIVE" */
    private static void with128() {
        int[] numbers = {1, 126, 127, 128, 129, 255, 256, 65536, Integer.MAX_VALUE - 1, Integer.MAX_VALUE};
        for (int rows : numbers) {
            CanErrors bus = let();
            Check.due("rows " + rows, bus.recover(1, rows), rows < 128 ? 2 : 0);
            Check.due("state behind " + rows, bus.state(1), rows < 128 ? 2 : 0);
            Check.due("sending behind " + rows, bus.counter(1, true), rows < 128 ? 256 : 0);
        }
    }

    /** "Rows .., counted on since it was LET" */
    private static void countedOn() {
        for (int first = 1; first <= 127; first++) {
            CanErrors bus = let();
            Check.due("first " + first, bus.recover(1, first), 2);
            if (first < 127) {
                Check.due("up to 127 from " + first, bus.recover(1, 127 - first), 2);
            }
            Check.due("the last from " + first, bus.recover(1, 1), 0);
        }
        CanErrors bus = let();
        for (int row = 1; row <= 128; row++) {
            Check.due("row " + row, bus.recover(1, 1), row < 128 ? 2 : 0);
        }
    }

    private static void beyondInt() {
        int[] firsts = {1, 2, 64, 127};
        for (int first : firsts) {
            CanErrors bus = let();
            bus.recover(1, first);
            Check.due("most behind " + first, bus.recover(1, Integer.MAX_VALUE), 0);
            Check.due("state behind " + first, bus.state(1), 0);
        }
    }

    /** "-3 it is not OFF": ACTIVE, PASSIVE, listening alone, back again. */
    private static void notOff() {
        CanErrors bus = Check.withNodes(1);
        Check.due("ACTIVE", bus.recover(1, 128), -3);
        bus.manager(1, 0);
        bus.manager(1, 10);
        Check.due("asked for", bus.recover(1, 128), -3);
        bus.listen(1, true);
        Check.due("listening alone", bus.recover(1, 128), -3);
        bus = Check.at(255, 255);
        Check.due("PASSIVE", bus.recover(1, 128), -3);
        Check.due("PASSIVE still", bus.state(1), 1);
        Check.due("sending stays", bus.counter(1, true), 255);
        Check.due("receiving stays", bus.counter(1, false), 255);
        bus = Check.backAgain(1, 0);
        Check.due("back again", bus.recover(1, 1), -3);
    }

    /** "or not LET" */
    private static void notLet() {
        CanErrors bus = Check.withNodes(1);
        Check.switchOff(bus);
        Check.due("not asked for", bus.recover(1, 128), -3);
        bus.manager(1, 0);
        Check.due("asked for once", bus.recover(1, 128), -3);
        bus.manager(1, 9);
        Check.due("asked for again", bus.recover(1, 128), -3);
        Check.due("off", bus.state(1), 2);
        bus.manager(1, 10);
        Check.due("let", bus.recover(1, 128), 0);
    }

    private static void countedOnlySinceItWasLet() {
        CanErrors bus = Check.withNodes(1);
        Check.switchOff(bus);
        bus.recover(1, 127);
        bus.manager(1, 0);
        bus.recover(1, 127);
        bus.manager(1, 10);
        Check.due("127", bus.recover(1, 127), 2);
        Check.due("128", bus.recover(1, 1), 0);
    }

    /** Each time that it is OFF its rows begin from 0, and what was over is not kept. */
    private static void rowsOfItsOwn() {
        CanErrors bus = let();
        bus.recover(1, 127);
        bus.recover(1, Integer.MAX_VALUE);
        Check.switchOffFast(bus);
        Check.due("not let anew", bus.recover(1, 1), -3);
        bus.manager(1, 20);
        bus.manager(1, 30);
        Check.due("127 anew", bus.recover(1, 127), 2);
        Check.due("128 anew", bus.recover(1, 1), 0);
    }

    private static void refusedRowsAreNotCounted() {
        CanErrors bus = let();
        bus.recover(1, 100);
        bus.recover(1, -100);
        bus.recover(1, 0);
        bus.recover(2, 100);
        bus.recover(0, 100);
        Check.due("127", bus.recover(1, 27), 2);
        Check.due("128", bus.recover(1, 1), 0);
    }

    private static void nodesCountApart() {
        CanErrors bus = Check.withNodes(2);
        Check.switchOff(bus);
        for (int i = 0; i < 32; i++) {
            bus.event(2, 1, true);
        }
        bus.manager(1, 0);
        bus.manager(2, 0);
        bus.manager(1, 10);
        Check.due("2 is not let", bus.recover(2, 128), -3);
        bus.manager(2, 10);
        Check.due("rows of 1", bus.recover(1, 100), 2);
        Check.due("rows of 2", bus.recover(2, 100), 2);
        Check.due("1 with 128", bus.recover(1, 28), 0);
        Check.due("2 is OFF still", bus.state(2), 2);
        Check.due("2 with 128", bus.recover(2, 28), 0);
    }

    /** "it is ACTIVE, with both counters 0, no flag, SUSPENDED 0": also if RECEIVING was above 127. */
    private static void backIsActive() {
        CanErrors bus = Check.at(248, 255);
        bus.event(1, 1, true);
        Check.comeBack(bus, 0, 10);
        Check.due("state", bus.state(1), 0);
        Check.due("sending", bus.counter(1, true), 0);
        Check.due("receiving", bus.counter(1, false), 0);
        Check.due("flag", bus.flag(1), 0);
        Check.due("suspended", bus.suspended(1), 0);
        Check.due("events are taken again", bus.event(1, 1, true), 0);
        Check.due("sending from 0", bus.counter(1, true), 8);
    }

    /** A bus whose node 1 is OFF and LET, with no rows yet. */
    private static CanErrors let() {
        CanErrors bus = Check.withNodes(1);
        Check.switchOffFast(bus);
        Check.due("waits", bus.manager(1, 0), 0);
        Check.due("let", bus.manager(1, 10), 1);
        return bus;
    }
}
