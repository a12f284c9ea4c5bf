/** Promise 11: two. */
public final class TwoTest {
    public static void main(String[] args) {
        partOfTheEventBefore();
        partWhileListening();
        lowerKindFirst();
        secondErrorDoesNotCome();
        allPairs();
        offBehindTheFirst();
        refusals();
        Check.finish();
    }

    private static void partOfTheEventBefore() {
        CanErrors bus = Check.withNodes(1);
        bus.two(1, 7, 8);
        Check.due("a receiver, if there was none", bus.counter(1, false), 16);
        bus.event(1, 0, true);
        bus.two(1, 7, 8);
        Check.due("a sender behind a sender's", bus.counter(1, true), 16);
        bus.two(1, 7, 8);
        Check.due("both stay the sender's", bus.counter(1, true), 32);
        bus.event(1, 0, false);
        bus.two(1, 7, 8);
        Check.due("a receiver behind a receiver's", bus.counter(1, false), 31);
        bus.event(1, 11, true);
        bus.two(1, 7, 8);
        Check.due("what is refused is no event", bus.counter(1, false), 47);
        Check.due("the sender's has stayed", bus.counter(1, true), 32);
    }

    private static void partWhileListening() {
        CanErrors bus = Check.withNodes(1);
        bus.event(1, 0, true);
        bus.listen(1, true);
        bus.listen(1, false);
        bus.two(1, 7, 8);
        Check.due("listening alone is no event", bus.counter(1, true), 16);
        bus.listen(1, true);
        Check.due("listens", bus.two(1, 7, 8), 0);
        Check.due("sending stays", bus.counter(1, true), 16);
        Check.due("receiving stays", bus.counter(1, false), 0);
        Check.due("no flag", bus.flag(1), 0);
        bus.listen(1, false);
        bus.two(1, 7, 8);
        Check.due("those were a receiver's events", bus.counter(1, false), 16);
    }

    private static void lowerKindFirst() {
        for (int turn = 0; turn < 2; turn++) {
            CanErrors bus = Check.withNodes(1);
            twoInTurn(bus, turn, 8, 1);
            Check.due("1, then 8", bus.flag(1), 14);
            twoInTurn(bus, turn, 10, 8);
            Check.due("8, then 10", bus.flag(1), 6);
            twoInTurn(bus, turn, 6, 9);
            Check.due("6, then 9", bus.flag(1), 6);
            twoInTurn(bus, turn, 6, 7);
            Check.due("6 and 7", bus.flag(1), 8);
        }
    }

    private static void twoInTurn(CanErrors bus, int turn, int a, int b) {
        if (turn == 0) {
            bus.two(1, a, b);
        } else {
            bus.two(1, b, a);
        }
    }

    private static void secondErrorDoesNotCome() {
        CanErrors bus = Check.withNodes(1);
        bus.event(1, 0, true);
        bus.two(1, 9, 4);
        Check.due("4 alone", bus.counter(1, true), 8);
        bus.two(1, 9, 10);
        Check.due("9 alone", bus.counter(1, true), 8);
        bus.two(1, 3, 3);
        Check.due("one 3", bus.counter(1, true), 16);
        bus.two(1, 8, 8);
        Check.due("8 twice", bus.counter(1, true), 32);
        Check.due("its flag too", bus.flag(1), 22);
        Check.repeat(bus, 12, 1, true);
        bus.two(1, 10, 5);
        Check.due("5 alone of a passive one", bus.counter(1, true), 128);
    }

    private static void allPairs() {
        int[] forSender = {0, 8, 8, 8, 8, 8, 0, 8, 8, 0, 8};
        int[] forReceiver = {0, 1, 1, 1, 1, 1, 8, 8, 8, 1, 1};
        for (int a = 1; a <= 10; a++) {
            for (int b = 1; b <= 10; b++) {
                int low = Math.min(a, b);
                boolean flagKind = (a >= 6 && a <= 8) || (b >= 6 && b <= 8);
                CanErrors bus = Check.withNodes(1);
                Check.due("two " + a + " " + b, bus.two(1, a, b), 0);
                Check.due("receiver's " + a + " " + b, bus.counter(1, false),
                    flagKind ? forReceiver[a] + forReceiver[b] : forReceiver[low]);
                bus = Check.withNodes(1);
                bus.event(1, 0, true);
                bus.two(1, a, b);
                Check.due("sender's " + a + " " + b, bus.counter(1, true),
                    flagKind ? forSender[a] + forSender[b] : forSender[low]);
            }
        }
    }

    private static void offBehindTheFirst() {
        CanErrors bus = Check.withNodes(1);
        bus.shot(1, true);
        Check.repeat(bus, 31, 1, true);
        Check.due("off by the first", bus.two(1, 9, 7), 2);
        Check.due("9 did not come", bus.shot(1, true), 31);
        Check.due("no flag", bus.flag(1), 0);
        Check.comeBack(bus, 0, 10);
        Check.repeat(bus, 30, 1, true);
        Check.due("off by the second", bus.two(1, 1, 8), 2);
        Check.due("256", bus.counter(1, true), 256);
    }

    private static void refusals() {
        CanErrors bus = Check.withNodes(1);
        Check.due("unknown before range", bus.two(2, 0, 0), -1);
        Check.due("first 0", bus.two(1, 0, 6), -2);
        Check.due("second 0", bus.two(1, 6, 0), -2);
        Check.due("first 11", bus.two(1, 11, 6), -2);
        Check.due("second 11", bus.two(1, 6, 11), -2);
        Check.due("first -1", bus.two(1, -1, 6), -2);
        Check.due("second -1", bus.two(1, 6, -1), -2);
        Check.due("nothing has happened", bus.suspended(1), 0);
        Check.due("nothing is counted", bus.counter(1, false), 0);
        Check.switchOff(bus);
        Check.due("range before off", bus.two(1, 0, 6), -2);
        Check.due("off", bus.two(1, 1, 6), -3);
    }
}
