/** The edges of promise 11. */
public final class TwoEdgesTest {
    public static void main(String[] args) {
        kindsThatAreTaken();
        kindsThatAreRefused();
        partIfThereWasNone();
        partOfTheEventBefore();
        partWhenListeningAlone();
        lowerKindFirst();
        sameKindTwice();
        passiveBetweenTheTwo();
        offBehindTheFirst();
        offBehindTheSecond();
        receiverIsNeverOff();
        countsBeyondStay();
        refusedWhenOff();
        Check.finish();
    }

    /** "-2 a kind is none, or 0": 1 to 10 are taken in either place. */
    private static void kindsThatAreTaken() {
        for (int a = 1; a <= 10; a++) {
            for (int b = 1; b <= 10; b++) {
                Check.due("two " + a + " " + b, Check.withNodes(1).two(1, a, b), 0);
            }
        }
    }

    private static void kindsThatAreRefused() {
        int[] none = {0, 11, -1, 12, -10, 256, 65537, Integer.MAX_VALUE, Integer.MIN_VALUE, Integer.MIN_VALUE + 1};
        int[] taken = {1, 6, 10};
        CanErrors bus = Check.withNodes(1);
        for (int wrong : none) {
            for (int right : taken) {
                Check.due("first " + wrong, bus.two(1, wrong, right), -2);
                Check.due("second " + wrong, bus.two(1, right, wrong), -2);
            }
            Check.due("both " + wrong, bus.two(1, wrong, wrong), -2);
            Check.due("with 0, " + wrong, bus.two(1, wrong, 0), -2);
        }
        Check.due("nothing was counted", bus.counter(1, false), 0);
        Check.due("no flag", bus.flag(1), 0);
        Check.due("no event", bus.suspended(1), 0);
    }

    /** "a receiver, if there was none": refused events are none. */
    private static void partIfThereWasNone() {
        CanErrors bus = Check.withNodes(2);
        bus.event(2, 1, true);
        bus.event(1, 11, true);
        bus.event(1, -1, true);
        bus.two(1, 1, 0);
        bus.two(1, 1, 7);
        Check.due("receiving", bus.counter(1, false), 9);
        Check.due("sending", bus.counter(1, true), 0);
        bus.two(1, 1, 7);
        Check.due("receiving again", bus.counter(1, false), 18);
        Check.due("sending still", bus.counter(1, true), 0);
    }

    /** "with the part (sender or receiver) of the node's event before", which may be one of any kind. */
    private static void partOfTheEventBefore() {
        for (int kind = 0; kind <= 10; kind++) {
            CanErrors bus = Check.withNodes(2);
            bus.event(1, kind, true);
            bus.event(2, 1, false);
            int sending = bus.counter(1, true);
            bus.two(1, 7, 8);
            bus.two(1, 7, 8);
            Check.due("sender's behind a sender's " + kind, bus.counter(1, true), sending + 32);
            Check.due("receiver's behind a sender's " + kind, bus.counter(1, false), 0);
            bus.event(1, kind, false);
            sending = bus.counter(1, true);
            int receiving = bus.counter(1, false);
            bus.two(1, 7, 8);
            bus.two(1, 7, 8);
            Check.due("sender's behind a receiver's " + kind, bus.counter(1, true), sending);
            Check.due("receiver's behind a receiver's " + kind, bus.counter(1, false), receiving + 32);
        }
    }

    /** "or it listens alone": it is not refused there, and counts nothing. */
    private static void partWhenListeningAlone() {
        CanErrors bus = Check.withNodes(1);
        bus.event(1, 0, true);
        bus.shot(1, true);
        bus.listen(1, true);
        for (int a = 1; a <= 10; a++) {
            Check.due("two " + a + " 8", bus.two(1, a, 8), 0);
        }
        Check.due("sending", bus.counter(1, true), 0);
        Check.due("receiving", bus.counter(1, false), 0);
        Check.due("flag", bus.flag(1), 0);
        Check.due("given up", bus.shot(1, true), 0);
        Check.due("as a receiver", bus.suspended(1), 3);
    }

    /** "the one of the lower kind comes first, as an event; the other one, too .., unless both are ERRORS" */
    private static void lowerKindFirst() {
        for (int a = 1; a <= 10; a++) {
            for (int b = 1; b <= 10; b++) {
                for (int part = 0; part < 2; part++) {
                    likeTwoEvents(a, b, part == 1);
                }
            }
        }
    }

    private static void likeTwoEvents(int a, int b, boolean sending) {
        CanErrors together = startedAs(sending);
        CanErrors apart = startedAs(sending);
        int state = apart.event(1, Math.min(a, b), sending);
        if (!isError(a) || !isError(b)) {
            state = apart.event(1, Math.max(a, b), sending);
        }
        String what = " of two " + a + " " + b + " as sender " + sending;
        Check.due("state" + what, together.two(1, a, b), state);
        Check.due("sending" + what, together.counter(1, true), apart.counter(1, true));
        Check.due("receiving" + what, together.counter(1, false), apart.counter(1, false));
        Check.due("flag" + what, together.flag(1), apart.flag(1));
        Check.due("suspended" + what, together.suspended(1), apart.suspended(1));
        Check.due("given up" + what, together.shot(1, true), apart.shot(1, true));
    }

    private static CanErrors startedAs(boolean sending) {
        CanErrors bus = Check.at(112, 112);
        bus.shot(1, true);
        bus.event(1, 0, sending);
        return bus;
    }

    private static boolean isError(int kind) {
        return kind != 0 && (kind < 6 || kind > 8);
    }

    /** An ERROR beside itself comes once, a kind that is none comes twice. */
    private static void sameKindTwice() {
        int[] once = {0, 1, 1, 1, 1, 1, 16, 16, 16, 1, 1};
        for (int kind = 1; kind <= 10; kind++) {
            CanErrors bus = Check.withNodes(1);
            bus.two(1, kind, kind);
            Check.due("two of " + kind, bus.counter(1, false), once[kind]);
        }
    }

    /** The first one may make it PASSIVE, and is counted before the second comes. */
    private static void passiveBetweenTheTwo() {
        CanErrors bus = Check.at(120, 0);
        Check.due("5, then 7", bus.two(1, 7, 5), 1);
        Check.due("both counted", bus.counter(1, true), 136);
        bus = Check.at(128, 0);
        Check.due("PASSIVE: 5, then 7", bus.two(1, 7, 5), 1);
        Check.due("7 alone counted", bus.counter(1, true), 136);
        Check.due("flag of both", bus.flag(1), 7);
    }

    /** "If the node is OFF behind the first one, the second one does not come." */
    private static void offBehindTheFirst() {
        for (int from = 247; from <= 255; from++) {
            CanErrors bus = Check.at(from, 0);
            bus.shot(1, true);
            Check.due("7, then 9 from " + from, bus.two(1, 9, 7), from == 247 ? 1 : 2);
            Check.due("sending from " + from, bus.counter(1, true), Math.min(from + 8, 256));
            Check.due("9 came from " + from, bus.shot(1, true), from == 247 ? 1 : 0);
            Check.due("flag from " + from, bus.flag(1), from == 247 ? 6 : 0);
        }
        offOnceByTwo();
    }

    /** A second event would make it OFF twice at once, so that the 3rd time would wait like the 6th. */
    private static void offOnceByTwo() {
        CanErrors bus = Check.withNodes(1);
        for (int i = 0; i < 5; i++) {
            Check.sendingAt(bus, 248);
            Check.due("off by 7", bus.two(1, 7, 8), 2);
            Check.comeBack(bus, 20L * i, 10);
        }
    }

    private static void offBehindTheSecond() {
        CanErrors bus = Check.at(240, 0);
        bus.shot(1, true);
        Check.due("1, then 7", bus.two(1, 7, 1), 2);
        Check.due("sending", bus.counter(1, true), 256);
        Check.due("flag", bus.flag(1), 0);
        Check.due("given up by 1", bus.shot(1, true), 1);
        bus = Check.at(239, 0);
        Check.due("one less", bus.two(1, 7, 1), 1);
        Check.due("255", bus.counter(1, true), 255);
        bus = Check.at(247, 0);
        Check.due("the second ERROR does not come", bus.two(1, 2, 1), 1);
        Check.due("255 too", bus.counter(1, true), 255);
    }

    private static void receiverIsNeverOff() {
        CanErrors bus = Check.at(0, 255);
        Check.due("two at 255", bus.two(1, 7, 8), 1);
        Check.due("stays", bus.counter(1, false), 255);
    }

    private static void countsBeyondStay() {
        CanErrors bus = Check.at(0, 240);
        Check.due("16 more from 240", bus.two(1, 7, 8), 1);
        Check.due("255, not 256", bus.counter(1, false), 255);
        bus = Check.at(0, 239);
        bus.two(1, 7, 8);
        Check.due("255", bus.counter(1, false), 255);
        bus = Check.at(0, 238);
        bus.two(1, 7, 8);
        Check.due("254", bus.counter(1, false), 254);
    }

    /** "-3 it is OFF", until it has come back. */
    private static void refusedWhenOff() {
        CanErrors bus = Check.at(248, 0);
        Check.due("off", bus.two(1, 1, 7), 2);
        Check.due("at 256", bus.two(1, 1, 7), -3);
        bus.manager(1, 0);
        bus.manager(1, 10);
        Check.due("let", bus.two(1, 6, 6), -3);
        bus.recover(1, 127);
        Check.due("with 127 rows", bus.two(1, 10, 10), -3);
        bus.recover(1, 1);
        Check.due("with 128", bus.two(1, 1, 7), 0);
    }
}
