/** Promise 12: suspended. */
public final class SuspendedTest {
    public static void main(String[] args) {
        eachKindMakesItWait();
        passiveBehindTheEvent();
        whileListening();
        refusals();
        Check.finish();
    }

    private static void eachKindMakesItWait() {
        for (int kind = 0; kind <= 10; kind++) {
            CanErrors bus = Check.withNodes(1);
            Check.due("at first", bus.suspended(1), 0);
            bus.event(1, kind, true);
            Check.due("an active sender's " + kind, bus.suspended(1), 3);
            bus = Check.withNodes(1);
            bus.event(1, kind, false);
            Check.due("a receiver's " + kind, bus.suspended(1), 3);
        }
    }

    private static void passiveBehindTheEvent() {
        CanErrors bus = Check.withNodes(1);
        Check.repeat(bus, 15, 1, true);
        Check.due("active behind 120", bus.suspended(1), 3);
        bus.event(1, 1, true);
        Check.due("passive behind 128", bus.suspended(1), 11);
        bus.event(1, 1, false);
        Check.due("passive as receiver", bus.suspended(1), 3);
        bus.event(1, 9, true);
        Check.due("passive by 9 of the sender", bus.suspended(1), 11);
        bus.event(1, 0, true);
        Check.due("active behind the good frame", bus.suspended(1), 3);
        bus.two(1, 1, 7);
        Check.due("passive behind two", bus.suspended(1), 11);
        bus = Check.withNodes(1);
        Check.repeat(bus, 16, 6, false);
        Check.due("passive receiver", bus.suspended(1), 3);
        bus.event(1, 0, true);
        Check.due("passive by receiving, as sender", bus.suspended(1), 11);
    }

    private static void whileListening() {
        CanErrors bus = Check.withNodes(1);
        Check.repeat(bus, 16, 1, true);
        bus.listen(1, true);
        Check.due("listening changes nothing", bus.suspended(1), 11);
        bus.event(1, 0, true);
        Check.due("nor does what is refused", bus.suspended(1), 11);
        bus.event(1, 0, false);
        Check.due("a listening receiver", bus.suspended(1), 3);
    }

    private static void refusals() {
        CanErrors bus = Check.withNodes(1);
        Check.due("unknown", bus.suspended(2), -1);
        Check.due("unknown 0", bus.suspended(0), -1);
        Check.switchOff(bus);
        Check.due("off", bus.suspended(1), -3);
        bus.manager(1, 0);
        bus.manager(1, 10);
        bus.recover(1, 127);
        Check.due("off still", bus.suspended(1), -3);
        bus.recover(1, 1);
        Check.due("0 when back", bus.suspended(1), 0);
    }
}
