/** The edges of COUNTERS, of OFF, PASSIVE and ACTIVE, and of what the kinds of EVENTS count. */
public final class CountersEdgesTest {
    private static final int ACTIVE = 0;
    private static final int PASSIVE = 1;
    private static final int OFF = 2;

    public static void main(String[] args) {
        atFirstZero();
        sendingAtMost256();
        receivingAtMost255();
        offOnlyAt256();
        offUntilItHasComeBack();
        passiveAbove127();
        senderNotBelow0();
        senderAbove127GoesDownByOne();
        receiverNotBelow0();
        receiverFromAbove127();
        nothingForTheSender();
        noAcknowledgementWhenPassive();
        eightMoreForBoth();
        Check.finish();
    }

    /** "at first 0" */
    private static void atFirstZero() {
        CanErrors bus = Check.withNodes(100);
        for (int number = 1; number <= 100; number++) {
            Check.due("sending of " + number, bus.counter(number, true), 0);
            Check.due("receiving of " + number, bus.counter(number, false), 0);
            Check.due("state of " + number, bus.state(number), ACTIVE);
        }
    }

    /** "SENDING (at most 256) .. what would go beyond stays there" */
    private static void sendingAtMost256() {
        for (int from = 240; from <= 255; from++) {
            CanErrors bus = Check.at(from, 0);
            Check.due("8 more from " + from, bus.event(1, 1, true), from + 8 < 256 ? PASSIVE : OFF);
            Check.due("sending behind " + from, bus.counter(1, true), Math.min(from + 8, 256));
            Check.due("receiving behind " + from, bus.counter(1, false), 0);
        }
    }

    /** "RECEIVING (at most 255) .. what would go beyond stays there": it never makes a node OFF. */
    private static void receivingAtMost255() {
        for (int from = 240; from <= 255; from++) {
            for (int kind = 1; kind <= 10; kind++) {
                int more = kind >= 6 && kind <= 8 ? 8 : 1;
                CanErrors bus = Check.at(0, from);
                Check.due("kind " + kind + " from " + from, bus.event(1, kind, false), PASSIVE);
                Check.due("receiving by " + kind + " behind " + from, bus.counter(1, false), Math.min(from + more, 255));
                Check.due("sending by " + kind + " behind " + from, bus.counter(1, true), 0);
            }
        }
    }

    /** "It is OFF (2) when its counter of SENDING comes to 256": 255 is PASSIVE, and RECEIVING plays no part. */
    private static void offOnlyAt256() {
        CanErrors bus = Check.at(255, 255);
        Check.due("both at 255", bus.state(1), PASSIVE);
        Check.due("a receiver's error there", bus.event(1, 7, false), PASSIVE);
        Check.due("a sender's error there", bus.event(1, 7, true), OFF);
        int[] makesOff = {1, 2, 3, 4, 7, 8, 10};
        for (int kind : makesOff) {
            bus = Check.at(247, 0);
            Check.due("kind " + kind + " to 255", bus.event(1, kind, true), PASSIVE);
            Check.due("at 255 by " + kind, bus.counter(1, true), 255);
            Check.due("kind " + kind + " to 256", bus.event(1, kind, true), OFF);
            Check.due("at 256 by " + kind, bus.counter(1, true), 256);
        }
    }

    /** "and then until it has come back": counters and state stay, whatever is asked for. */
    private static void offUntilItHasComeBack() {
        CanErrors bus = Check.at(248, 255);
        Check.due("off", bus.event(1, 1, true), OFF);
        stillOff("at once", bus);
        for (int kind = 0; kind <= 10; kind++) {
            Check.due("a sender's " + kind, bus.event(1, kind, true), -3);
            Check.due("a receiver's " + kind, bus.event(1, kind, false), -3);
        }
        stillOff("behind events", bus);
        bus.manager(1, 0);
        stillOff("asked for", bus);
        bus.manager(1, 10);
        stillOff("let", bus);
        Check.due("127 rows", bus.recover(1, 127), OFF);
        stillOff("with 127 rows", bus);
        Check.due("128 rows", bus.recover(1, 1), ACTIVE);
        Check.due("sending when back", bus.counter(1, true), 0);
        Check.due("receiving when back", bus.counter(1, false), 0);
        Check.due("state when back", bus.state(1), ACTIVE);
    }

    private static void stillOff(String when, CanErrors bus) {
        Check.due("state " + when, bus.state(1), OFF);
        Check.due("sending " + when, bus.counter(1, true), 256);
        Check.due("receiving " + when, bus.counter(1, false), 255);
    }

    /** "PASSIVE (1) while one of the counters is above 127, otherwise ACTIVE (0)" */
    private static void passiveAbove127() {
        int[] counts = {0, 126, 127, 128, 129, 255};
        for (int sending : counts) {
            for (int receiving : counts) {
                CanErrors bus = Check.at(sending, receiving);
                boolean passive = sending > 127 || receiving > 127;
                Check.due("state at " + sending + " and " + receiving, bus.state(1), passive ? PASSIVE : ACTIVE);
            }
        }
    }

    /** "the sender's counter becomes one less, not below 0" */
    private static void senderNotBelow0() {
        CanErrors bus = Check.at(1, 5);
        Check.due("from 1", bus.event(1, 0, true), ACTIVE);
        Check.due("0 from 1", bus.counter(1, true), 0);
        for (int i = 0; i < 3; i++) {
            Check.due("from 0", bus.event(1, 0, true), ACTIVE);
            Check.due("0 from 0", bus.counter(1, true), 0);
        }
        Check.due("the other one stays", bus.counter(1, false), 5);
        bus.event(1, 1, true);
        Check.due("nothing was owed", bus.counter(1, true), 8);
    }

    /** The 119 is a receiver's alone: a sender's counter becomes one less from anywhere. */
    private static void senderAbove127GoesDownByOne() {
        int[] counts = {127, 128, 129, 255};
        for (int count : counts) {
            CanErrors bus = Check.at(count, 0);
            Check.due("from " + count, bus.event(1, 0, true), count - 1 > 127 ? PASSIVE : ACTIVE);
            Check.due("one less from " + count, bus.counter(1, true), count - 1);
        }
    }

    /** "a receiver's, too": one less, not below 0. */
    private static void receiverNotBelow0() {
        CanErrors bus = Check.at(5, 1);
        Check.due("from 1", bus.event(1, 0, false), ACTIVE);
        Check.due("0 from 1", bus.counter(1, false), 0);
        for (int i = 0; i < 3; i++) {
            Check.due("from 0", bus.event(1, 0, false), ACTIVE);
            Check.due("0 from 0", bus.counter(1, false), 0);
        }
        Check.due("the other one stays", bus.counter(1, true), 5);
        bus.event(1, 1, false);
        Check.due("nothing was owed", bus.counter(1, false), 1);
    }

    /** "but from above 127 it becomes 119" */
    private static void receiverFromAbove127() {
        int[] counts = {119, 120, 126, 127, 128, 129, 254, 255};
        for (int count : counts) {
            CanErrors bus = Check.at(0, count);
            Check.due("from " + count, bus.event(1, 0, false), ACTIVE);
            Check.due("behind " + count, bus.counter(1, false), count > 127 ? 119 : count - 1);
        }
        CanErrors bus = Check.at(128, 255);
        Check.due("PASSIVE by the other one", bus.event(1, 0, false), PASSIVE);
        Check.due("119 all the same", bus.counter(1, false), 119);
        bus.event(1, 0, false);
        Check.due("and one less from there", bus.counter(1, false), 118);
    }

    /** "nothing for a sender by 9", "6 .. nothing for the sender": not at 0, and not at 255 either. */
    private static void nothingForTheSender() {
        int[] kinds = {6, 9};
        int[] counts = {0, 127, 128, 248, 255};
        for (int kind : kinds) {
            for (int count : counts) {
                CanErrors bus = Check.at(count, 3);
                Check.due("kind " + kind + " at " + count, bus.event(1, kind, true), count > 127 ? PASSIVE : ACTIVE);
                Check.due("sending by " + kind + " at " + count, bus.counter(1, true), count);
                Check.due("receiving by " + kind + " at " + count, bus.counter(1, false), 3);
            }
        }
    }

    /** "nothing by 5 for a sender that is PASSIVE when it happens", by either counter; and by 5 alone. */
    private static void noAcknowledgementWhenPassive() {
        int[] counts = {0, 119, 120, 127, 128, 255};
        for (int sending : counts) {
            for (int receiving : counts) {
                boolean passive = sending > 127 || receiving > 127;
                String where = " at " + sending + " and " + receiving;
                CanErrors bus = Check.at(sending, receiving);
                int state = passive || sending + 8 > 127 ? PASSIVE : ACTIVE;
                Check.due("5" + where, bus.event(1, 5, true), state);
                Check.due("sending by 5" + where, bus.counter(1, true), passive ? sending : sending + 8);
                Check.due("receiving by 5" + where, bus.counter(1, false), receiving);
                bus.event(1, 5, false);
                Check.due("a receiver's 5" + where, bus.counter(1, false), Math.min(receiving + 1, 255));
            }
        }
        CanErrors bus = Check.at(128, 0);
        bus.event(1, 10, true);
        Check.due("10 counts when PASSIVE", bus.counter(1, true), 136);
    }

    /** "7 .., 8 ..: 8 more for both", for the sender as for a receiver. */
    private static void eightMoreForBoth() {
        for (int kind = 7; kind <= 8; kind++) {
            CanErrors bus = Check.at(120, 120);
            Check.due("a sender's " + kind, bus.event(1, kind, true), PASSIVE);
            Check.due("sending by " + kind, bus.counter(1, true), 128);
            Check.due("receiving stays by a sender's " + kind, bus.counter(1, false), 120);
            bus = Check.at(120, 120);
            Check.due("a receiver's " + kind, bus.event(1, kind, false), PASSIVE);
            Check.due("receiving by " + kind, bus.counter(1, false), 128);
            Check.due("sending stays by a receiver's " + kind, bus.counter(1, true), 120);
        }
    }
}
