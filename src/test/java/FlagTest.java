/** Promise 7: flag. */
public final class FlagTest {
    public static void main(String[] args) {
        errorsBeginIt();
        itGrows();
        noneGrows();
        itIsGone();
        Check.due("unknown", Check.withNodes(1).flag(2), -1);
        Check.due("unknown 0", Check.withNodes(1).flag(0), -1);
        Check.finish();
    }

    private static void errorsBeginIt() {
        int[] errors = {1, 2, 3, 4, 5, 9, 10};
        for (int kind : errors) {
            for (int part = 0; part < 2; part++) {
                CanErrors bus = Check.withNodes(1);
                bus.event(1, kind, part == 1);
                Check.due("begun by " + kind, bus.flag(1), 6);
                bus.event(1, 8, part == 1);
                bus.event(1, kind, part == 1);
                Check.due("begun anew by " + kind, bus.flag(1), 6);
            }
        }
        CanErrors bus = Check.withNodes(1);
        Check.repeat(bus, 16, 1, true);
        bus.event(1, 8, true);
        bus.event(1, 5, true);
        Check.due("begun by a 5 that is not counted", bus.flag(1), 6);
    }

    private static void itGrows() {
        for (int part = 0; part < 2; part++) {
            CanErrors bus = Check.withNodes(1);
            bus.event(1, 1, part == 1);
            bus.event(1, 6, part == 1);
            Check.due("by 6", bus.flag(1), 7);
            bus.event(1, 7, part == 1);
            Check.due("by 7", bus.flag(1), 8);
            bus.event(1, 8, part == 1);
            Check.due("by 8", bus.flag(1), 16);
        }
        CanErrors bus = Check.withNodes(1);
        bus.event(1, 1, false);
        for (int i = 0; i < 500; i++) {
            bus.two(1, 8, 8);
        }
        Check.due("very long", bus.flag(1), 6 + 500 * 16);
    }

    private static void noneGrows() {
        CanErrors bus = Check.withNodes(1);
        for (int kind = 6; kind <= 8; kind++) {
            bus.event(1, kind, false);
            Check.due("none by " + kind, bus.flag(1), 0);
        }
        Check.due("but counted", bus.counter(1, false), 24);
    }

    private static void itIsGone() {
        CanErrors bus = Check.withNodes(1);
        bus.event(1, 1, false);
        bus.event(1, 0, false);
        Check.due("by a receiver's good frame", bus.flag(1), 0);
        bus.event(1, 1, true);
        bus.event(1, 0, true);
        Check.due("by a sender's good frame", bus.flag(1), 0);
        bus.event(1, 1, true);
        bus.listen(1, true);
        Check.due("by listening", bus.flag(1), 0);
        bus.event(1, 1, false);
        Check.due("none while listening", bus.flag(1), 0);
        bus.listen(1, false);
        bus.event(1, 8, false);
        Check.due("and none to grow behind it", bus.flag(1), 0);
        Check.repeat(bus, 40, 1, true);
        Check.due("off", bus.state(1), 2);
        Check.due("none when off", bus.flag(1), 0);
        Check.comeBack(bus, 0, 10);
        Check.due("none when back", bus.flag(1), 0);
        bus.event(1, 7, false);
        Check.due("and none to grow then", bus.flag(1), 0);
    }
}
