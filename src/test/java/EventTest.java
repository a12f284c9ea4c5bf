/** Promise 3: event, with what each kind adds. */
public final class EventTest {
    public static void main(String[] args) {
        eachKindAdds();
        senderGoesDownByOne();
        receiverGoesDown();
        noAcknowledgementOfPassiveSender();
        noAcknowledgementOfOthers();
        answersAreStates();
        refusals();
        Check.finish();
    }

    private static void eachKindAdds() {
        int[] forSender = {0, 8, 8, 8, 8, 8, 0, 8, 8, 0, 8};
        int[] forReceiver = {0, 1, 1, 1, 1, 1, 8, 8, 8, 1, 1};
        for (int kind = 0; kind <= 10; kind++) {
            CanErrors bus = Check.withNodes(1);
            Check.due("event " + kind + " of a sender", bus.event(1, kind, true), 0);
            Check.due("sender's by " + kind, bus.counter(1, true), forSender[kind]);
            Check.due("sender's other by " + kind, bus.counter(1, false), 0);
            bus = Check.withNodes(1);
            Check.due("event " + kind + " of a receiver", bus.event(1, kind, false), 0);
            Check.due("receiver's by " + kind, bus.counter(1, false), forReceiver[kind]);
            Check.due("receiver's other by " + kind, bus.counter(1, true), 0);
        }
    }

    private static void senderGoesDownByOne() {
        CanErrors bus = Check.withNodes(1);
        Check.repeat(bus, 17, 1, true);
        bus.event(1, 1, false);
        Check.due("still passive", bus.event(1, 0, true), 1);
        Check.due("one less from 136", bus.counter(1, true), 135);
        Check.due("the other one stays", bus.counter(1, false), 1);
        Check.repeat(bus, 134, 0, true);
        Check.due("down to 1", bus.counter(1, true), 1);
        bus.event(1, 0, true);
        Check.due("down to 0", bus.counter(1, true), 0);
        bus.event(1, 0, true);
        Check.due("not below 0", bus.counter(1, true), 0);
    }

    private static void receiverGoesDown() {
        CanErrors bus = Check.withNodes(1);
        Check.repeat(bus, 127, 1, false);
        Check.due("active at 127", bus.event(1, 0, false), 0);
        Check.due("one less from 127", bus.counter(1, false), 126);
        Check.repeat(bus, 2, 1, false);
        Check.due("at 128", bus.counter(1, false), 128);
        Check.due("active from 128", bus.event(1, 0, false), 0);
        Check.due("119 from 128", bus.counter(1, false), 119);
        Check.repeat(bus, 3, 7, false);
        Check.due("at 143", bus.counter(1, false), 143);
        bus.event(1, 0, true);
        Check.due("a sender's good frame leaves it", bus.counter(1, false), 143);
        bus.event(1, 0, false);
        Check.due("119 from 143", bus.counter(1, false), 119);
        bus = Check.withNodes(1);
        bus.event(1, 0, false);
        Check.due("not below 0", bus.counter(1, false), 0);
    }

    private static void noAcknowledgementOfPassiveSender() {
        CanErrors bus = Check.withNodes(1);
        Check.repeat(bus, 15, 5, true);
        Check.due("active at 120", bus.state(1), 0);
        Check.due("becomes passive by 5 itself", bus.event(1, 5, true), 1);
        Check.due("which was counted", bus.counter(1, true), 128);
        Check.due("passive now", bus.event(1, 5, true), 1);
        Check.due("which is not counted", bus.counter(1, true), 128);
        bus.event(1, 10, true);
        Check.due("10 is", bus.counter(1, true), 136);

        bus = Check.withNodes(1);
        Check.repeat(bus, 16, 6, false);
        Check.due("passive by receiving", bus.event(1, 5, true), 1);
        Check.due("not counted either", bus.counter(1, true), 0);
    }

    private static void noAcknowledgementOfOthers() {
        CanErrors bus = Check.withNodes(1);
        Check.repeat(bus, 16, 1, true);
        bus.event(1, 5, false);
        Check.due("a passive receiver's 5 is counted", bus.counter(1, false), 1);
    }

    private static void answersAreStates() {
        CanErrors bus = Check.withNodes(1);
        for (int i = 1; i <= 32; i++) {
            Check.due("error " + i, bus.event(1, 1 + i % 4, true), i < 16 ? 0 : i < 32 ? 1 : 2);
        }
    }

    private static void refusals() {
        CanErrors bus = Check.withNodes(1);
        Check.due("unknown before range", bus.event(2, 11, true), -1);
        Check.due("kind 11", bus.event(1, 11, true), -2);
        Check.due("kind -1", bus.event(1, -1, false), -2);
        Check.due("kind least", bus.event(1, Integer.MIN_VALUE, false), -2);
        Check.due("kind most", bus.event(1, Integer.MAX_VALUE, false), -2);
        Check.due("nothing has happened", bus.suspended(1), 0);
        bus.listen(1, true);
        Check.due("range before state", bus.event(1, 11, true), -2);
        Check.due("a listening sender", bus.event(1, 0, true), -3);
        Check.due("a listening receiver", bus.event(1, 0, false), 0);
        bus.listen(1, false);
        Check.switchOff(bus);
        Check.due("range before off", bus.event(1, 11, true), -2);
        Check.due("off as sender", bus.event(1, 0, true), -3);
        Check.due("off as receiver", bus.event(1, 1, false), -3);
        Check.due("nothing is counted", bus.counter(1, false), 0);
    }
}
