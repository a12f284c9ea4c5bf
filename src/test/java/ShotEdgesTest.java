/** The edges of SINGLE SHOT, and of promise 9. */
public final class ShotEdgesTest {
    private static final int[] ERRORS = {1, 2, 3, 4, 5, 9, 10};

    public static void main(String[] args) {
        noneAtFirst();
        notSingleAtFirst();
        fromNowOn();
        onlyTheSender();
        onlyErrors();
        errorsThatCountNothing();
        theOneThatBringsItOff();
        offOrNot();
        keptWhenBack();
        oneFrameByTwo();
        notWhileListeningAlone();
        asManyAs512CallsGo();
        Check.finish();
    }

    private static void noneAtFirst() {
        CanErrors bus = Check.withNodes(100);
        Check.due("1, single", bus.shot(1, true), 0);
        Check.due("100, not", bus.shot(100, false), 0);
    }

    /** "sends its frame again, unless it is SINGLE": a node that was never told so is not. */
    private static void notSingleAtFirst() {
        CanErrors bus = Check.withNodes(1);
        bus.event(1, 1, true);
        Check.due("not single", bus.shot(1, false), 0);
    }

    /** "A node is SINGLE from now on, or not": frames before count as they went. */
    private static void fromNowOn() {
        CanErrors bus = Check.withNodes(2);
        bus.event(1, 1, true);
        Check.due("one before it", bus.shot(1, true), 0);
        Check.due("told again", bus.shot(1, true), 0);
        bus.event(1, 1, true);
        bus.event(2, 1, true);
        Check.due("the first one", bus.shot(1, false), 1);
        Check.due("the other node's", bus.shot(2, true), 0);
        bus.event(1, 1, true);
        bus.event(2, 1, true);
        Check.due("kept when single no more", bus.shot(1, true), 1);
        Check.due("the other node's first", bus.shot(2, true), 1);
    }

    /** "a node that is the sender at an ERROR" */
    private static void onlyTheSender() {
        for (int kind : ERRORS) {
            CanErrors bus = Check.withNodes(1);
            bus.shot(1, true);
            bus.event(1, kind, false);
            Check.due("a receiver's " + kind, bus.shot(1, true), 0);
            bus.event(1, kind, true);
            Check.due("a sender's " + kind, bus.shot(1, true), 1);
        }
    }

    /** "at an ERROR": kinds 0, 6, 7 and 8 are none. */
    private static void onlyErrors() {
        int[] others = {0, 6, 7, 8};
        for (int kind : others) {
            CanErrors bus = Check.withNodes(1);
            bus.shot(1, true);
            bus.event(1, kind, true);
            Check.due("kind " + kind, bus.shot(1, true), 0);
            bus.two(1, 6, 8);
            Check.due("two of them", bus.shot(1, true), 0);
        }
    }

    /** 9, and 5 of a PASSIVE sender, are ERRORS though they count nothing. */
    private static void errorsThatCountNothing() {
        CanErrors bus = Check.at(128, 0);
        bus.shot(1, true);
        bus.event(1, 5, true);
        Check.due("5", bus.shot(1, true), 1);
        bus.event(1, 9, true);
        Check.due("9", bus.shot(1, true), 2);
        Check.due("counted nothing", bus.counter(1, true), 128);
    }

    private static void theOneThatBringsItOff() {
        CanErrors bus = Check.at(248, 0);
        bus.shot(1, true);
        Check.due("off", bus.event(1, 1, true), 2);
        Check.due("its frame", bus.shot(1, true), 1);
        bus.event(1, 1, true);
        Check.due("not what is refused", bus.shot(1, true), 1);
    }

    /** "(OFF or not)" */
    private static void offOrNot() {
        CanErrors bus = Check.withNodes(1);
        Check.switchOff(bus);
        Check.due("told when off", bus.shot(1, true), 0);
        Check.comeBack(bus, 0, 10);
        bus.event(1, 1, true);
        Check.due("single since then", bus.shot(1, true), 1);
        Check.switchOffFast(bus);
        Check.due("told no more when off", bus.shot(1, false), 2);
        Check.comeBack(bus, 100, 10);
        bus.event(1, 1, true);
        Check.due("no more since then", bus.shot(1, false), 2);
    }

    /** COMING BACK names what becomes 0: neither SINGLE nor what was GIVEN UP is among it. */
    private static void keptWhenBack() {
        CanErrors bus = Check.withNodes(1);
        bus.shot(1, true);
        Check.switchOff(bus);
        Check.comeBack(bus, 0, 10);
        bus.event(1, 2, true);
        Check.due("single still, 32 kept", bus.shot(1, true), 33);
    }

    /** Two ERRORS of one frame give it up once; the second of them does not come. */
    private static void oneFrameByTwo() {
        for (int a : ERRORS) {
            for (int b : ERRORS) {
                CanErrors bus = Check.withNodes(1);
                bus.event(1, 0, true);
                bus.shot(1, true);
                bus.two(1, a, b);
                Check.due("two " + a + " " + b, bus.shot(1, true), 1);
            }
        }
        for (int a : ERRORS) {
            for (int b = 6; b <= 8; b++) {
                CanErrors bus = Check.withNodes(1);
                bus.event(1, 0, true);
                bus.shot(1, true);
                bus.two(1, a, b);
                Check.due("two " + a + " " + b, bus.shot(1, true), 1);
            }
        }
    }

    /** "LISTENING ALONE a node never sends" */
    private static void notWhileListeningAlone() {
        CanErrors bus = Check.withNodes(1);
        bus.event(1, 0, true);
        bus.shot(1, true);
        bus.listen(1, true);
        for (int kind : ERRORS) {
            bus.event(1, kind, true);
            bus.event(1, kind, false);
            bus.two(1, kind, 6);
        }
        Check.due("none", bus.shot(1, true), 0);
        bus.listen(1, false);
        bus.event(1, 1, true);
        Check.due("single still", bus.shot(1, true), 1);
    }

    private static void asManyAs512CallsGo() {
        CanErrors bus = Check.withNodes(1);
        bus.shot(1, true);
        Check.repeat(bus, 509, 9, true);
        Check.due("with the 512th call", bus.shot(1, true), 509);
    }
}
