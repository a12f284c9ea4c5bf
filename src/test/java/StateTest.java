/** Promise 5: state. */
public final class StateTest {
    public static void main(String[] args) {
        passiveBySending();
        passiveByReceiving();
        passiveByEither();
        offUntilBack();
        Check.due("unknown", Check.withNodes(1).state(2), -1);
        Check.due("unknown 0", Check.withNodes(1).state(0), -1);
        Check.finish();
    }

    private static void passiveBySending() {
        CanErrors bus = Check.withNodes(1);
        Check.repeat(bus, 16, 1, true);
        Check.due("passive at 128", bus.state(1), 1);
        bus.event(1, 0, true);
        Check.due("active at 127", bus.state(1), 0);
    }

    private static void passiveByReceiving() {
        CanErrors bus = Check.withNodes(1);
        Check.repeat(bus, 127, 1, false);
        Check.due("active at 127", bus.state(1), 0);
        bus.event(1, 1, false);
        Check.due("passive at 128", bus.state(1), 1);
    }

    private static void passiveByEither() {
        CanErrors bus = Check.withNodes(1);
        Check.repeat(bus, 16, 1, true);
        Check.repeat(bus, 16, 6, false);
        bus.event(1, 0, false);
        Check.due("passive by sending alone", bus.state(1), 1);
        bus.event(1, 0, true);
        Check.due("active at last", bus.state(1), 0);
    }

    private static void offUntilBack() {
        CanErrors bus = Check.withNodes(2);
        Check.switchOff(bus);
        Check.due("the other one is active", bus.state(2), 0);
        bus.manager(1, 0);
        Check.due("off while it waits", bus.state(1), 2);
        bus.manager(1, 10);
        Check.due("off when it is let", bus.state(1), 2);
        bus.recover(1, 127);
        Check.due("off with 127 rows", bus.state(1), 2);
        bus.recover(1, 1);
        Check.due("active with 128", bus.state(1), 0);
    }
}
