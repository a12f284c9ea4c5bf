/** The edges of promise 3: which kinds there are, and when an event is refused. */
public final class EventEdgesTest {
    private static final int[] NONE = {-1, 11, -2, 12, -10, 255, 256, 65536, Integer.MAX_VALUE,
        Integer.MAX_VALUE - 1, Integer.MIN_VALUE, Integer.MIN_VALUE + 1, Integer.MIN_VALUE + 10};

    public static void main(String[] args) {
        kindsThatAreTaken();
        kindsThatAreRefused();
        answersAroundPassive();
        answersAroundOff();
        refusedWhenOff();
        refusedWhenListeningAlone();
        hundredthNode();
        Check.finish();
    }

    /** "(0 .. 10)" */
    private static void kindsThatAreTaken() {
        for (int kind = 0; kind <= 10; kind++) {
            CanErrors bus = Check.withNodes(1);
            Check.due("a sender's " + kind, bus.event(1, kind, true), 0);
            Check.due("a receiver's " + kind, bus.event(1, kind, false), 0);
        }
    }

    /** "-2 no such kind" */
    private static void kindsThatAreRefused() {
        CanErrors bus = Check.withNodes(1);
        for (int kind : NONE) {
            Check.due("a sender's " + kind, bus.event(1, kind, true), -2);
            Check.due("a receiver's " + kind, bus.event(1, kind, false), -2);
        }
        Check.due("sending", bus.counter(1, true), 0);
        Check.due("receiving", bus.counter(1, false), 0);
        Check.due("flag", bus.flag(1), 0);
        Check.due("suspended", bus.suspended(1), 0);
    }

    /** "whether the node is ACTIVE, PASSIVE or OFF behind it": not before it. */
    private static void answersAroundPassive() {
        Check.due("sender to 127", Check.at(119, 0).event(1, 1, true), 0);
        Check.due("sender to 128", Check.at(120, 0).event(1, 1, true), 1);
        Check.due("sender down to 128", Check.at(129, 0).event(1, 0, true), 1);
        Check.due("sender down to 127", Check.at(128, 0).event(1, 0, true), 0);
        Check.due("receiver to 127", Check.at(0, 126).event(1, 1, false), 0);
        Check.due("receiver to 128", Check.at(0, 127).event(1, 1, false), 1);
        Check.due("receiver down to 119", Check.at(0, 128).event(1, 0, false), 0);
        Check.due("receiver down, PASSIVE by sending", Check.at(128, 128).event(1, 0, false), 1);
        Check.due("sender down, PASSIVE by receiving", Check.at(128, 128).event(1, 0, true), 1);
    }

    private static void answersAroundOff() {
        Check.due("sender to 255", Check.at(247, 0).event(1, 8, true), 1);
        Check.due("sender to 256", Check.at(248, 0).event(1, 8, true), 2);
        Check.due("sender beyond 256", Check.at(255, 0).event(1, 8, true), 2);
        Check.due("receiver at 255", Check.at(255, 255).event(1, 8, false), 1);
    }

    /** "-3 it is OFF": each kind, either part, until it has come back. */
    private static void refusedWhenOff() {
        CanErrors bus = Check.at(255, 0);
        Check.due("off", bus.event(1, 1, true), 2);
        allRefused("at once", bus);
        bus.manager(1, 0);
        bus.manager(1, 10);
        allRefused("let", bus);
        bus.recover(1, 127);
        allRefused("with 127 rows", bus);
        bus.recover(1, 1);
        Check.due("as sender with 128", bus.event(1, 1, true), 0);
        Check.due("as receiver with 128", bus.event(1, 1, false), 0);
    }

    private static void allRefused(String when, CanErrors bus) {
        for (int kind = 0; kind <= 10; kind++) {
            Check.due("a sender's " + kind + " " + when, bus.event(1, kind, true), -3);
            Check.due("a receiver's " + kind + " " + when, bus.event(1, kind, false), -3);
        }
    }

    /** "or it listens alone and should be the sender" */
    private static void refusedWhenListeningAlone() {
        CanErrors bus = Check.at(255, 0);
        bus.listen(1, true);
        for (int kind = 0; kind <= 10; kind++) {
            Check.due("a sender's " + kind, bus.event(1, kind, true), -3);
            Check.due("a receiver's " + kind, bus.event(1, kind, false), 1);
        }
        Check.due("sending stays", bus.counter(1, true), 255);
        bus.listen(1, false);
        Check.due("a sender again", bus.event(1, 1, true), 2);
    }

    private static void hundredthNode() {
        CanErrors bus = Check.withNodes(100);
        for (int i = 1; i <= 32; i++) {
            Check.due("error " + i, bus.event(100, 1, true), i < 16 ? 0 : i < 32 ? 1 : 2);
        }
        Check.due("the one before it", bus.state(99), 0);
        Check.due("the first", bus.state(1), 0);
    }
}
