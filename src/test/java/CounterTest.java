/** Promise 4: counter, and its limits. */
public final class CounterTest {
    public static void main(String[] args) {
        sendingStaysAtMost();
        receivingStaysAtMost();
        keptWhileOff();
        refusals();
        Check.finish();
    }

    private static void sendingStaysAtMost() {
        CanErrors bus = Check.withNodes(1);
        Check.repeat(bus, 31, 1, true);
        Check.due("248", bus.counter(1, true), 248);
        bus.event(1, 0, true);
        bus.event(1, 1, true);
        Check.due("255", bus.counter(1, true), 255);
        Check.due("passive at 255", bus.state(1), 1);
        Check.due("off", bus.event(1, 1, true), 2);
        Check.due("stays at 256", bus.counter(1, true), 256);
    }

    private static void receivingStaysAtMost() {
        CanErrors bus = Check.withNodes(1);
        Check.repeat(bus, 31, 8, false);
        Check.repeat(bus, 6, 1, false);
        Check.due("254", bus.counter(1, false), 254);
        bus.event(1, 1, false);
        Check.due("255", bus.counter(1, false), 255);
        Check.due("still passive", bus.event(1, 1, false), 1);
        Check.due("stays by 1", bus.counter(1, false), 255);
        bus.event(1, 6, false);
        Check.due("stays by 8", bus.counter(1, false), 255);
        Check.due("never off by receiving", bus.state(1), 1);
    }

    private static void keptWhileOff() {
        CanErrors bus = Check.withNodes(1);
        Check.repeat(bus, 3, 1, false);
        Check.switchOff(bus);
        Check.due("sending while off", bus.counter(1, true), 256);
        Check.due("receiving while off", bus.counter(1, false), 3);
        Check.comeBack(bus, 0, 10);
        Check.due("sending behind it", bus.counter(1, true), 0);
        Check.due("receiving behind it", bus.counter(1, false), 0);
    }

    private static void refusals() {
        CanErrors bus = Check.withNodes(2);
        Check.due("0", bus.counter(0, true), -1);
        Check.due("3", bus.counter(3, false), -1);
        Check.due("-1", bus.counter(-1, false), -1);
    }
}
