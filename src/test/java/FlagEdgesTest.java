/** The edges of the FLAG, and of promise 7. */
public final class FlagEdgesTest {
    private static final int[] ERRORS = {1, 2, 3, 4, 5, 9, 10};

    public static void main(String[] args) {
        noneAtFirst();
        beginsAnewWithSix();
        onlyOneThatIsThereGrows();
        growsAsFarAs512CallsGo();
        atMost10000();
        goneByKind0();
        goneWhenOff();
        goneWhenListeningAlone();
        noneBehindComingBack();
        Check.finish();
    }

    private static void noneAtFirst() {
        CanErrors bus = Check.withNodes(100);
        Check.due("of 1", bus.flag(1), 0);
        Check.due("of 100", bus.flag(100), 0);
    }

    /** "by each ERROR a node's flag begins anew, with 6 bits", however long it was, also if nothing is counted. */
    private static void beginsAnewWithSix() {
        for (int kind : ERRORS) {
            for (int part = 0; part < 2; part++) {
                boolean sending = part == 1;
                CanErrors bus = Check.at(128, 255);
                bus.listen(1, false);
                Check.due("none before " + kind, bus.flag(1), 0);
                bus.event(1, kind, sending);
                Check.due("by " + kind, bus.flag(1), 6);
                bus.event(1, 6, sending);
                bus.event(1, kind, sending);
                Check.due("anew from 7 by " + kind, bus.flag(1), 6);
                bus.event(1, 8, sending);
                bus.event(1, kind, sending);
                Check.due("anew from 14 by " + kind, bus.flag(1), 6);
            }
        }
    }

    /** "6 makes it 1 bit longer, 7 1 bit, 8 8 bits (if there is one ..)" */
    private static void onlyOneThatIsThereGrows() {
        int[] longer = {1, 1, 8};
        for (int kind = 6; kind <= 8; kind++) {
            for (int part = 0; part < 2; part++) {
                boolean sending = part == 1;
                CanErrors bus = Check.withNodes(1);
                bus.event(1, kind, sending);
                Check.due("none by " + kind, bus.flag(1), 0);
                bus.two(1, kind, kind);
                Check.due("none by two of " + kind, bus.flag(1), 0);
                bus.event(1, 1, sending);
                bus.event(1, kind, sending);
                Check.due("longer by " + kind, bus.flag(1), 6 + longer[kind - 6]);
                bus.two(1, kind, kind);
                Check.due("longer by two of " + kind, bus.flag(1), 6 + 3 * longer[kind - 6]);
            }
        }
    }

    /** 512 calls can't make it 10000 bits long, so nothing may hold it within them. */
    private static void growsAsFarAs512CallsGo() {
        CanErrors bus = Check.withNodes(1);
        bus.event(1, 1, false);
        int calls = 512 - 3;
        for (int i = 0; i < calls; i++) {
            bus.two(1, 8, 8);
        }
        Check.due("with the 512th call", bus.flag(1), 6 + 16 * calls);
    }

    /**
     * "at most 10000". No 512 calls come there, and the document leaves later answers free: this
     * looks at what the class does all the same, since nothing else would show that it has the limit.
     */
    private static void atMost10000() {
        for (int kind = 6; kind <= 8; kind++) {
            int more = kind == 8 ? 8 : 1;
            for (int from = 9991; from <= 10000; from++) {
                CanErrors bus = withLongFlag(from);
                bus.event(1, kind, false);
                Check.due("kind " + kind + " from " + from, bus.flag(1), Math.min(from + more, 10000));
            }
            CanErrors bus = withLongFlag(10000);
            bus.two(1, kind, kind);
            Check.due("two of " + kind + " from 10000", bus.flag(1), 10000);
            bus.event(1, 1, false);
            Check.due("anew from 10000", bus.flag(1), 6);
        }
    }

    private static CanErrors withLongFlag(int bits) {
        CanErrors bus = Check.withNodes(1);
        bus.event(1, 1, false);
        Check.repeat(bus, (bits - 6) / 8, 8, false);
        Check.repeat(bus, (bits - 6) % 8, 6, false);
        Check.due("brought to " + bits, bus.flag(1), bits);
        return bus;
    }

    /** "It is gone, 0, by a kind 0" of either part; there is none to grow then. */
    private static void goneByKind0() {
        for (int part = 0; part < 2; part++) {
            CanErrors bus = Check.withNodes(1);
            bus.event(1, 1, part == 0);
            bus.event(1, 0, part == 1);
            Check.due("gone", bus.flag(1), 0);
            bus.event(1, 8, part == 1);
            Check.due("none to grow", bus.flag(1), 0);
        }
    }

    /** "when the node is OFF": also by the event that brings it there, be it an ERROR or not. */
    private static void goneWhenOff() {
        int[] makesOff = {1, 2, 3, 4, 7, 8, 10};
        for (int kind : makesOff) {
            CanErrors bus = Check.at(248, 0);
            Check.due("before " + kind, bus.flag(1), 6);
            Check.due("off by " + kind, bus.event(1, kind, true), 2);
            Check.due("when off by " + kind, bus.flag(1), 0);
            bus.event(1, 1, false);
            Check.due("an event that is refused", bus.flag(1), 0);
            bus.manager(1, 0);
            bus.manager(1, 10);
            bus.recover(1, 127);
            Check.due("when let", bus.flag(1), 0);
        }
    }

    /** "and for one that listens alone": no kind begins one there. */
    private static void goneWhenListeningAlone() {
        CanErrors bus = Check.withNodes(1);
        bus.event(1, 1, true);
        bus.listen(1, true);
        Check.due("gone", bus.flag(1), 0);
        for (int kind = 0; kind <= 10; kind++) {
            bus.event(1, kind, false);
            Check.due("none by " + kind, bus.flag(1), 0);
        }
        for (int kind : ERRORS) {
            bus.two(1, kind, 8);
            Check.due("none by two with " + kind, bus.flag(1), 0);
        }
        bus.listen(1, false);
        bus.event(1, 8, false);
        Check.due("none to grow behind it", bus.flag(1), 0);
    }

    /** "it is ACTIVE, with both counters 0, no flag" */
    private static void noneBehindComingBack() {
        CanErrors bus = Check.backAgain(1, 0);
        Check.due("none", bus.flag(1), 0);
        bus.two(1, 6, 8);
        Check.due("none to grow", bus.flag(1), 0);
        bus.event(1, 1, true);
        Check.due("a new one", bus.flag(1), 6);
    }
}
