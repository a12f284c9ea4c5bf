/** The edges of SUSPENDED, and of promise 12. */
public final class SuspendedEdgesTest {
    public static void main(String[] args) {
        atFirst0();
        senderAt127And128();
        passiveBehindTheEvent();
        receiverAlways3();
        behindBothOfTwo();
        refusedWhenOff();
        zeroWhenBack();
        unchangedByOtherCalls();
        Check.finish();
    }

    /** "at first 0" */
    private static void atFirst0() {
        CanErrors bus = Check.withNodes(100);
        Check.due("of 1", bus.suspended(1), 0);
        Check.due("of 100", bus.suspended(100), 0);
        bus.event(1, 0, true);
        Check.due("of 100 behind an event of 1", bus.suspended(100), 0);
    }

    /** "behind an event as the sender a node waits 3 bits, 11 if it is PASSIVE", by either counter. */
    private static void senderAt127And128() {
        int[] counts = {0, 127, 128, 255};
        int[] countsNothing = {6, 9};
        for (int kind : countsNothing) {
            for (int sending : counts) {
                for (int receiving : counts) {
                    CanErrors bus = Check.at(sending, receiving);
                    bus.event(1, kind, true);
                    boolean passive = sending > 127 || receiving > 127;
                    Check.due("kind " + kind + " at " + sending + " and " + receiving, bus.suspended(1), passive ? 11 : 3);
                }
            }
        }
    }

    /** "PASSIVE behind that event": not before it. */
    private static void passiveBehindTheEvent() {
        CanErrors bus = Check.at(128, 0);
        bus.event(1, 0, true);
        Check.due("127 behind a good frame", bus.suspended(1), 3);
        bus.event(1, 1, true);
        Check.due("135 behind an error", bus.suspended(1), 11);
        bus = Check.at(129, 0);
        bus.event(1, 0, true);
        Check.due("128 behind a good frame", bus.suspended(1), 11);
        bus = Check.at(119, 0);
        bus.event(1, 1, true);
        Check.due("127 behind an error", bus.suspended(1), 3);
        bus = Check.at(120, 0);
        bus.event(1, 5, true);
        Check.due("128 behind a 5", bus.suspended(1), 11);
        bus.event(1, 5, true);
        Check.due("128 behind another 5", bus.suspended(1), 11);
    }

    /** "behind one as a receiver 3", PASSIVE or not, listening alone or not. */
    private static void receiverAlways3() {
        for (int kind = 0; kind <= 10; kind++) {
            CanErrors bus = Check.at(128, 255);
            bus.event(1, 6, true);
            Check.due("before " + kind, bus.suspended(1), 11);
            Check.due("PASSIVE behind " + kind, bus.event(1, kind, false), 1);
            Check.due("a receiver's " + kind, bus.suspended(1), 3);
            bus.event(1, 6, true);
            bus.listen(1, true);
            Check.due("listening alone is no event", bus.suspended(1), 11);
            bus.event(1, kind, false);
            Check.due("a listening receiver's " + kind, bus.suspended(1), 3);
        }
    }

    /** Both events of `two` make it wait, the last one as the last. */
    private static void behindBothOfTwo() {
        CanErrors bus = Check.at(112, 0);
        bus.two(1, 7, 1);
        Check.due("PASSIVE behind the second", bus.suspended(1), 11);
        bus = Check.at(112, 0);
        bus.two(1, 2, 1);
        Check.due("the second has not come", bus.suspended(1), 3);
        bus = Check.withNodes(1);
        bus.two(1, 2, 1);
        Check.due("a receiver's first event", bus.suspended(1), 3);
    }

    /** "-3 it is OFF", until it has come back. */
    private static void refusedWhenOff() {
        CanErrors bus = Check.at(255, 0);
        Check.due("at 255", bus.suspended(1), 11);
        bus.event(1, 1, true);
        Check.due("at 256", bus.suspended(1), -3);
        bus.manager(1, 0);
        Check.due("asked for", bus.suspended(1), -3);
        bus.manager(1, 10);
        Check.due("let", bus.suspended(1), -3);
        bus.recover(1, 127);
        Check.due("with 127 rows", bus.suspended(1), -3);
        bus.recover(1, 1);
        Check.due("with 128", bus.suspended(1), 0);
    }

    /** "SUSPENDED 0" when it has come back, and 3 behind the next event. */
    private static void zeroWhenBack() {
        CanErrors bus = Check.backAgain(1, 0);
        Check.due("back", bus.suspended(1), 0);
        bus.event(1, 1, true);
        Check.due("the next event", bus.suspended(1), 3);
    }

    private static void unchangedByOtherCalls() {
        CanErrors bus = Check.at(128, 0);
        bus.shot(1, true);
        bus.manager(1, 5);
        bus.listen(1, true);
        bus.event(1, 1, true);
        bus.event(1, 11, false);
        bus.two(1, 0, 1);
        bus.recover(1, 128);
        Check.due("as behind the last event", bus.suspended(1), 11);
        Check.due("and by asking", bus.suspended(1), 11);
    }
}
