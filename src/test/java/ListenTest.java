/** Promise 10: listen. */
public final class ListenTest {
    public static void main(String[] args) {
        answersWhetherAnother();
        countersStay();
        flagIsGoneInAnyCase();
        statesStay();
        refusals();
        Check.finish();
    }

    private static void answersWhetherAnother() {
        CanErrors bus = Check.withNodes(1);
        Check.due("off at first", bus.listen(1, false), 0);
        Check.due("on", bus.listen(1, true), 1);
        Check.due("on again", bus.listen(1, true), 0);
        Check.due("off", bus.listen(1, false), 1);
        Check.due("off again", bus.listen(1, false), 0);
    }

    private static void countersStay() {
        CanErrors bus = Check.withNodes(1);
        Check.repeat(bus, 5, 1, true);
        Check.repeat(bus, 5, 1, false);
        bus.listen(1, true);
        for (int kind = 0; kind <= 10; kind++) {
            Check.due("receiver by " + kind, bus.event(1, kind, false), 0);
            Check.due("sender by " + kind, bus.event(1, kind, true), -3);
            Check.due("sending by " + kind, bus.counter(1, true), 40);
            Check.due("receiving by " + kind, bus.counter(1, false), 5);
            Check.due("flag by " + kind, bus.flag(1), 0);
        }
        bus.listen(1, false);
        bus.event(1, 1, false);
        bus.event(1, 1, true);
        Check.due("receiving counts again", bus.counter(1, false), 6);
        Check.due("sending counts again", bus.counter(1, true), 48);
        Check.due("flag is sent again", bus.flag(1), 6);
    }

    private static void flagIsGoneInAnyCase() {
        CanErrors bus = Check.withNodes(1);
        bus.event(1, 1, false);
        Check.due("no other way", bus.listen(1, false), 0);
        Check.due("flag gone by no change", bus.flag(1), 0);
        bus.event(1, 1, false);
        bus.listen(1, true);
        Check.due("flag gone by listening", bus.flag(1), 0);
        bus.listen(1, false);
        Check.due("and stays gone", bus.flag(1), 0);
    }

    private static void statesStay() {
        CanErrors bus = Check.withNodes(1);
        Check.repeat(bus, 16, 6, false);
        bus.listen(1, true);
        Check.due("passive still", bus.state(1), 1);
        Check.due("a good frame does not help", bus.event(1, 0, false), 1);
        Check.due("128 still", bus.counter(1, false), 128);
    }

    private static void refusals() {
        CanErrors bus = Check.withNodes(1);
        Check.due("unknown", bus.listen(2, true), -1);
        Check.due("unknown 0", bus.listen(0, true), -1);
        Check.switchOff(bus);
        Check.due("off, on", bus.listen(1, true), -3);
        Check.due("off, off", bus.listen(1, false), -3);
        Check.comeBack(bus, 0, 10);
        Check.due("which changed nothing", bus.listen(1, false), 0);
    }
}
