/** Promise 6: recover. */
public final class RecoverTest {
    public static void main(String[] args) {
        refusals();
        rowsAreCountedOn();
        rowsBeyondAnyInt();
        rowsBeginAnew();
        backIsAllNew();
        Check.finish();
    }

    private static void refusals() {
        CanErrors bus = Check.withNodes(1);
        Check.due("unknown before range", bus.recover(2, 0), -1);
        Check.due("range before state", bus.recover(1, 0), -2);
        Check.due("below 0", bus.recover(1, Integer.MIN_VALUE), -2);
        Check.due("not off", bus.recover(1, 1), -3);
        bus.manager(1, 0);
        Check.due("asked for, but not off", bus.recover(1, 1), -3);
        Check.switchOff(bus);
        Check.due("off, not let", bus.recover(1, 128), -3);
        bus.manager(1, 5);
        Check.due("off, waits", bus.recover(1, 128), -3);
        bus.manager(1, 15);
        Check.due("let, no rows", bus.recover(1, 0), -2);
        Check.due("let, rows below 0", bus.recover(1, -1), -2);
        Check.due("none was counted before", bus.recover(1, 127), 2);
        Check.due("back", bus.recover(1, 1), 0);
        Check.due("back already", bus.recover(1, 1), -3);
    }

    private static void rowsAreCountedOn() {
        CanErrors bus = offAndLet();
        for (int i = 1; i < 128; i++) {
            Check.due("row " + i, bus.recover(1, 1), 2);
        }
        Check.due("row 128", bus.recover(1, 1), 0);
        bus = offAndLet();
        Check.due("100 rows", bus.recover(1, 100), 2);
        bus.manager(1, 500);
        Check.due("asking anew takes no rows away", bus.recover(1, 28), 0);
    }

    private static void rowsBeyondAnyInt() {
        CanErrors bus = offAndLet();
        Check.due("a first row", bus.recover(1, 1), 2);
        Check.due("very many more", bus.recover(1, Integer.MAX_VALUE), 0);
    }

    private static void rowsBeginAnew() {
        CanErrors bus = offAndLet();
        bus.recover(1, 100);
        bus.recover(1, 100);
        Check.switchOff(bus);
        Check.due("must be let anew", bus.recover(1, 128), -3);
        bus.manager(1, 20);
        Check.due("and waits anew", bus.recover(1, 128), -3);
        bus.manager(1, 30);
        Check.due("rows from 0", bus.recover(1, 127), 2);
        Check.due("to 128", bus.recover(1, 1), 0);
    }

    private static void backIsAllNew() {
        CanErrors bus = Check.withNodes(1);
        Check.repeat(bus, 20, 7, false);
        Check.switchOff(bus);
        Check.comeBack(bus, 0, 10);
        Check.due("state", bus.state(1), 0);
        Check.due("sending", bus.counter(1, true), 0);
        Check.due("receiving", bus.counter(1, false), 0);
        Check.due("flag", bus.flag(1), 0);
        Check.due("suspended", bus.suspended(1), 0);
        Check.due("its event before was a sender's", bus.two(1, 1, 2), 0);
        Check.due("so it is the sender again", bus.counter(1, true), 8);
    }

    private static CanErrors offAndLet() {
        CanErrors bus = Check.withNodes(1);
        Check.switchOff(bus);
        bus.manager(1, 0);
        Check.due("let", bus.manager(1, 10), 1);
        return bus;
    }
}
