/** Promise 9: shot. */
public final class ShotTest {
    public static void main(String[] args) {
        onlySingleSendersGiveUp();
        onlyErrorsCount();
        twoErrorsAreOneFrame();
        offOrNot();
        Check.due("unknown", Check.withNodes(1).shot(2, true), -1);
        Check.due("unknown 0", Check.withNodes(1).shot(0, false), -1);
        Check.finish();
    }

    private static void onlySingleSendersGiveUp() {
        CanErrors bus = Check.withNodes(1);
        bus.event(1, 1, true);
        Check.due("not single", bus.shot(1, true), 0);
        bus.event(1, 1, false);
        Check.due("a receiver", bus.shot(1, true), 0);
        bus.event(1, 1, true);
        bus.event(1, 2, true);
        Check.due("two given up", bus.shot(1, false), 2);
        bus.event(1, 1, true);
        Check.due("single no more", bus.shot(1, true), 2);
        bus.event(1, 1, true);
        Check.due("single again", bus.shot(1, true), 3);
    }

    private static void onlyErrorsCount() {
        int[] givenUp = {0, 1, 1, 1, 1, 1, 0, 0, 0, 1, 1};
        for (int kind = 0; kind <= 10; kind++) {
            CanErrors bus = Check.withNodes(1);
            bus.shot(1, true);
            bus.event(1, kind, true);
            Check.due("by " + kind, bus.shot(1, true), givenUp[kind]);
        }
        CanErrors bus = Check.withNodes(1);
        Check.repeat(bus, 16, 1, true);
        bus.shot(1, true);
        bus.event(1, 5, true);
        Check.due("by a 5 that is not counted", bus.shot(1, true), 1);
        bus.event(1, 11, true);
        Check.due("not by what is refused", bus.shot(1, true), 1);
        bus.listen(1, true);
        bus.event(1, 1, true);
        bus.two(1, 1, 6);
        Check.due("not while listening", bus.shot(1, true), 1);
    }

    private static void twoErrorsAreOneFrame() {
        CanErrors bus = Check.withNodes(1);
        bus.event(1, 0, true);
        bus.shot(1, true);
        bus.two(1, 3, 2);
        Check.due("one frame", bus.shot(1, true), 1);
        bus.two(1, 9, 7);
        Check.due("by the second", bus.shot(1, true), 2);
        bus.two(1, 7, 8);
        Check.due("by neither", bus.shot(1, true), 2);
    }

    private static void offOrNot() {
        CanErrors bus = Check.withNodes(1);
        bus.shot(1, true);
        Check.switchOff(bus);
        Check.due("the last one too", bus.shot(1, false), 32);
        Check.due("asked while off", bus.shot(1, false), 32);
        bus.event(1, 1, true);
        Check.comeBack(bus, 0, 10);
        bus.event(1, 1, true);
        Check.due("set while off, kept when back", bus.shot(1, true), 32);
        Check.repeat(bus, 31, 1, true);
        Check.comeBack(bus, 100, 10);
        bus.event(1, 1, true);
        Check.due("single still when back", bus.shot(1, true), 64);
    }
}
