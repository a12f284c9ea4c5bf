/** The edges of LISTENING ALONE, and of promise 10. */
public final class ListenEdgesTest {
    public static void main(String[] args) {
        notAtFirst();
        anotherWayThanBefore();
        flagGoneInAnyCase();
        refusedAsTheSender();
        countersStayAtTheirEdges();
        refusedWhenOff();
        keptWhenNothingTellsOtherwise();
        Check.finish();
    }

    private static void notAtFirst() {
        CanErrors bus = Check.withNodes(100);
        Check.due("1", bus.listen(1, false), 0);
        Check.due("100", bus.listen(100, true), 1);
        Check.due("99", bus.listen(99, false), 0);
    }

    /** "1 if that is another way than before, 0 if not" */
    private static void anotherWayThanBefore() {
        CanErrors bus = Check.withNodes(1);
        boolean[] ways = {false, true, true, false, false, true, false};
        int[] answers = {0, 1, 0, 1, 0, 1, 1};
        for (int i = 0; i < ways.length; i++) {
            Check.due("call " + i, bus.listen(1, ways[i]), answers[i]);
        }
    }

    /** "(its flag is gone in any case)": also when the way stays, and when there is none. */
    private static void flagGoneInAnyCase() {
        CanErrors bus = Check.withNodes(1);
        Check.due("with no flag", bus.listen(1, false), 0);
        Check.due("none", bus.flag(1), 0);
        bus.event(1, 1, true);
        Check.due("the way stays", bus.listen(1, false), 0);
        Check.due("gone", bus.flag(1), 0);
        bus.event(1, 1, true);
        Check.due("another way", bus.listen(1, true), 1);
        Check.due("gone too", bus.flag(1), 0);
        Check.due("on again", bus.listen(1, true), 0);
        Check.due("off", bus.listen(1, false), 1);
        Check.due("not there again", bus.flag(1), 0);
    }

    /** "events as the sender are refused", each kind; as a receiver none is. */
    private static void refusedAsTheSender() {
        CanErrors bus = Check.withNodes(1);
        bus.listen(1, true);
        for (int kind = 0; kind <= 10; kind++) {
            Check.due("a sender's " + kind, bus.event(1, kind, true), -3);
            Check.due("a receiver's " + kind, bus.event(1, kind, false), 0);
        }
        bus.listen(1, false);
        for (int kind = 0; kind <= 10; kind++) {
            Check.due("a sender's " + kind + " behind it", bus.event(1, kind, true), 0);
        }
    }

    /** "its counters stay as they are whatever happens": at 0, around 127 and at 255. */
    private static void countersStayAtTheirEdges() {
        int[] counts = {0, 127, 128, 255};
        for (int sending : counts) {
            for (int receiving : counts) {
                CanErrors bus = Check.at(sending, receiving);
                int state = sending > 127 || receiving > 127 ? 1 : 0;
                bus.listen(1, true);
                for (int kind = 0; kind <= 10; kind++) {
                    Check.due("state by " + kind, bus.event(1, kind, false), state);
                }
                Check.due("state by two", bus.two(1, 7, 8), state);
                Check.due("sending " + sending, bus.counter(1, true), sending);
                Check.due("receiving " + receiving, bus.counter(1, false), receiving);
                Check.due("state", bus.state(1), state);
            }
        }
    }

    /** "-3 it is OFF", until it has come back, and the way is as before then. */
    private static void refusedWhenOff() {
        CanErrors bus = Check.at(255, 0);
        Check.due("at 255", bus.listen(1, false), 0);
        Check.due("off", bus.event(1, 1, true), 2);
        refusedBothWays("at 256", bus);
        bus.manager(1, 0);
        refusedBothWays("asked for", bus);
        bus.manager(1, 10);
        refusedBothWays("let", bus);
        bus.recover(1, 127);
        refusedBothWays("with 127 rows", bus);
        bus.recover(1, 1);
        Check.due("a sender still", bus.event(1, 0, true), 0);
        Check.due("with 128", bus.listen(1, true), 1);
    }

    private static void refusedBothWays(String when, CanErrors bus) {
        Check.due("on " + when, bus.listen(1, true), -3);
        Check.due("off " + when, bus.listen(1, false), -3);
    }

    private static void keptWhenNothingTellsOtherwise() {
        CanErrors bus = Check.withNodes(2);
        bus.listen(1, true);
        Check.due("the other one sends", bus.event(2, 0, true), 0);
        bus.shot(1, true);
        bus.manager(1, 0);
        bus.listen(2, false);
        Check.repeat(bus, 130, 0, false);
        Check.due("listens still", bus.event(1, 0, true), -3);
        Check.due("so that is no other way", bus.listen(1, true), 0);
    }
}
